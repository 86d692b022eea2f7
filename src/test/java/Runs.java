import java.util.function.IntSupplier;

/** Makes each call on a ZipGuard and on a SecondGuard: both must answer, or throw, the same. */
final class Runs {
    private final ZipGuard first = new ZipGuard();
    private final SecondGuard second = new SecondGuard();
    private final String label;
    private int calls = 0;
    private int lastAnswer = 0;

    Runs(String label) {
        this.label = label;
    }

    private int same(String call, IntSupplier firstCall, IntSupplier secondCall) {
        calls++;
        String due = outcome(secondCall);
        int dueAnswer = lastAnswer;
        Checks.due(label + ", call " + calls + ": " + call, outcome(firstCall), due);
        return dueAnswer;
    }

    private String outcome(IntSupplier call) {
        lastAnswer = 0;
        try {
            lastAnswer = call.getAsInt();
            return Integer.toString(lastAnswer);
        } catch (RuntimeException e) {
            return e.getClass().getName();
        }
    }

    int calls() {
        return calls;
    }

    void load(byte[] tape) {
        for (int i = 0; i < tape.length; i += 20) {
            feed(Archive.number(tape, i), Archive.number(tape, i + 4), Archive.number(tape, i + 8),
                    Archive.number(tape, i + 12), Archive.number(tape, i + 16));
        }
        end(tape.length);
    }

    void feed(int a, int b, int c, int d, int e) {
        same("feed", () -> first.feed(a, b, c, d, e), () -> second.feed(a, b, c, d, e));
    }

    void end(int n) {
        same("end(" + n + ")", () -> {
            first.end(n);
            return 0;
        }, () -> {
            second.end(n);
            return 0;
        });
    }

    void alter(int i, int b) {
        same("alter(" + i + ", " + b + ")", () -> first.alter(i, b), () -> second.alter(i, b));
    }

    int open() {
        return same("open()", first::open, second::open);
    }

    void place() {
        same("place()", first::place, second::place);
    }

    void limits(int budget, int ratio) {
        same("limits(" + budget + ", " + ratio + ")", () -> {
            first.limits(budget, ratio);
            return 0;
        }, () -> {
            second.limits(budget, ratio);
            return 0;
        });
    }

    int take(int entry) {
        return same("take(" + entry + ")", () -> first.take(entry), () -> second.take(entry));
    }

    int takeAll() {
        return same("takeAll()", first::takeAll, second::takeAll);
    }

    int entry(int entry, int what) {
        return same("entry(" + entry + ", " + what + ")", () -> first.entry(entry, what),
                () -> second.entry(entry, what));
    }

    void name(int entry, int k) {
        same("name(" + entry + ", " + k + ")", () -> first.name(entry, k), () -> second.name(entry, k));
    }

    void written(int entry, int k) {
        same("written(" + entry + ", " + k + ")", () -> first.written(entry, k), () -> second.written(entry, k));
    }

    int about(int what) {
        return same("about(" + what + ")", () -> first.about(what), () -> second.about(what));
    }

    /** All that can be asked, and the places just beyond. */
    void lookAtAll() {
        for (int what = -1; what <= 5; what++) {
            about(what);
        }
        place();
        int entries = second.about(1);
        for (int i = 0; i < entries; i++) {
            for (int what = -1; what <= 8; what++) {
                entry(i, what);
            }
            for (int k = -1; k <= second.entry(i, 7); k++) {
                name(i, k);
            }
            for (int k = -1; k <= second.entry(i, 6); k++) {
                written(i, k);
            }
        }
        entry(entries, 0);
    }
}
