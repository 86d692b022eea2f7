/** Promises 10 to 13: entry, name, written, about. */
public final class AskTest {
    public static void main(String[] args) {
        noneOpen();
        entryTellsEachNumber();
        namesAndWrittenBytes();
        aboutTells();
        askingChangesNothing();
        Checks.finish("AskTest");
    }

    private static ZipGuard opened() {
        byte[] packed = new BitWriter().head(true, 1).fixedText("ab").fixed(256).bytes();
        ZipGuard x = Archive.load(new Archive().store("first.txt", "hello").folder("dir/")
                .packed("dir/two", packed, Archive.bytesOf("ab")).add("bad", 8, packed, 9, -5).bytes());
        Checks.due("open()", x.open(), 4);
        return x;
    }

    private static void noneOpen() {
        ZipGuard x = new ZipGuard();
        Checks.dueThrow("entry(0, 0)", IllegalStateException.class, () -> x.entry(0, 0));
        Checks.dueThrow("entry(-1, 9)", IllegalStateException.class, () -> x.entry(-1, 9));
        Checks.dueThrow("name(0, 0)", IllegalStateException.class, () -> x.name(0, 0));
        Checks.dueThrow("name(-1, 0)", IllegalStateException.class, () -> x.name(-1, 0));
        Checks.dueThrow("written(0, 0)", IllegalStateException.class, () -> x.written(0, 0));
        Checks.dueThrow("written(-1, 0)", IllegalStateException.class, () -> x.written(-1, 0));
    }

    private static void entryTellsEachNumber() {
        ZipGuard x = opened();
        x.takeAll();
        int hello = Archive.sumOf(Archive.bytesOf("hello"));
        int ab = Archive.sumOf(Archive.bytesOf("ab"));
        int[][] due = {
            {0, 5, 5, hello, 0, 1, 5, 9},
            {0, 0, 0, 0, 1, 1, 0, 4},
            {8, 4, 2, ab, 0, 1, 2, 7},
            {8, 4, 9, -5, 0, 2, 2, 3}
        };
        for (int i = 0; i < due.length; i++) {
            for (int what = 0; what < 8; what++) {
                Checks.due("entry(" + i + ", " + what + ")", x.entry(i, what), due[i][what]);
            }
        }
        Checks.due("open()", x.open(), 4);
        for (int i = 0; i < due.length; i++) {
            Checks.due("entry(" + i + ", 5)", x.entry(i, 5), 0);
            Checks.due("entry(" + i + ", 6)", x.entry(i, 6), 0);
        }
        for (int what : new int[] {-1, 8, Integer.MAX_VALUE, Integer.MIN_VALUE}) {
            Checks.dueThrow("entry(0, " + what + ")", IllegalArgumentException.class, () -> x.entry(0, what));
            Checks.dueThrow("entry(4, " + what + ")", IndexOutOfBoundsException.class, () -> x.entry(4, what));
        }
        Checks.dueThrow("entry(4, 0)", IndexOutOfBoundsException.class, () -> x.entry(4, 0));
        Checks.dueThrow("entry(-1, 0)", IndexOutOfBoundsException.class, () -> x.entry(-1, 0));
    }

    private static void namesAndWrittenBytes() {
        ZipGuard x = opened();
        textDue(x, 0, "first.txt", "");
        x.takeAll();
        textDue(x, 0, "first.txt", "hello");
        textDue(x, 1, "dir/", "");
        textDue(x, 2, "dir/two", "ab");
        textDue(x, 3, "bad", "ab");
        for (int entry : new int[] {-1, 4, 64, Integer.MAX_VALUE, Integer.MIN_VALUE}) {
            Checks.dueThrow("name", IndexOutOfBoundsException.class, () -> x.name(entry, 0));
            Checks.dueThrow("written", IndexOutOfBoundsException.class, () -> x.written(entry, 0));
        }
    }

    private static void textDue(ZipGuard x, int entry, String name, String written) {
        int[] beyond = {-1, Integer.MIN_VALUE, Integer.MAX_VALUE};
        for (int k : beyond) {
            Checks.due("name(" + entry + ", " + k + ")", x.name(entry, k), -1);
            Checks.due("written(" + entry + ", " + k + ")", x.written(entry, k), -1);
        }
        for (int k = 0; k <= name.length(); k++) {
            Checks.due("name(" + entry + ", " + k + ")", x.name(entry, k),
                    k < name.length() ? name.charAt(k) : -1);
        }
        for (int k = 0; k <= written.length(); k++) {
            Checks.due("written(" + entry + ", " + k + ")", x.written(entry, k),
                    k < written.length() ? written.charAt(k) : -1);
        }
    }

    private static void aboutTells() {
        ZipGuard x = opened();
        int n = x.about(0);
        aboutDue(x, n, 4, 0, 20000, 100);
        x.takeAll();
        aboutDue(x, n, 4, 9, 20000, 100);
        x.limits(1, 2);
        aboutDue(x, n, 4, 9, 1, 2);
        // Nothing but open() sets back what was written since the opening.
        x.feed(0, 0, 0, 0, 0);
        aboutDue(x, n + 20, 0, 9, 1, 2);
        x.end(n);
        aboutDue(x, n, 0, 9, 1, 2);
        x.open();
        aboutDue(x, n, 4, 0, 1, 2);
        x.end(n - 1);
        x.open();
        aboutDue(x, n - 1, 0, 0, 1, 2);
        for (int what : new int[] {-1, 5, Integer.MAX_VALUE, Integer.MIN_VALUE}) {
            Checks.dueThrow("about(" + what + ")", IllegalArgumentException.class, () -> x.about(what));
        }
    }

    private static void aboutDue(ZipGuard x, int... due) {
        for (int what = 0; what < due.length; what++) {
            Checks.due("about(" + what + ")", x.about(what), due[what]);
        }
    }

    private static void askingChangesNothing() {
        ZipGuard x = opened();
        x.take(0);
        for (int k = 0; k < 3; k++) {
            textDue(x, 0, "first.txt", "hello");
            Checks.dueThrow("take(9)", IndexOutOfBoundsException.class, () -> x.take(9));
            Checks.dueThrow("entry(0, 9)", IllegalArgumentException.class, () -> x.entry(0, 9));
            aboutDue(x, x.about(0), 4, 5, 20000, 100);
            Checks.due("place()", x.place(), -1);
        }
    }
}
