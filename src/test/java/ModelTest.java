import java.nio.ByteBuffer;
import java.nio.ByteOrder;
import java.nio.charset.StandardCharsets;
import java.util.ArrayList;
import java.util.Arrays;
import java.util.List;
import java.util.Random;

/** Promises 5 and 6 against a second, plain writing of the document: archives broken by chance. */
public final class ModelTest {
    private static final Random RANDOM = new Random(5111202);
    private static final String[] NAMES = {
        "a", "b", "a/", "b/", "a/b", "a/c", "a/b/", "b/a/c", "a/b/c", "ab", "..", "a//b", "x:", "A", "c/d", "c",
        "1/2/3/4/5/6/7/8", "1/2/3/4/5/6/7/8/9", "1/2/3/4/5/6/7/8/", "d", "e", "f", "g/", "g/h", "i", "j", "k"
    };

    public static void main(String[] args) {
        int[] answers = new int[12];
        for (int round = 0; round < 40000; round++) {
            byte[] tape = breakSome(archive());
            Model model = new Model(tape);
            int due = model.open();
            ZipGuard x = Archive.load(tape);
            String call = "round " + round;
            Checks.due(call + ": open()", x.open(), due);
            Checks.due(call + ": place()", x.place(), model.place);
            answers[due < 0 ? -due : 0]++;
            if (due > 0) {
                namesDue(call, x, model);
                x.takeAll();
            }
        }
        for (int fault = 0; fault < 12; fault++) {
            Checks.due("fault " + fault + " was met", answers[fault] > 0 ? 1 : 0, 1);
        }
        Checks.finish("ModelTest");
    }

    private static void namesDue(String call, ZipGuard x, Model model) {
        for (int i = 0; i < model.names.size(); i++) {
            StringBuilder got = new StringBuilder();
            for (int k = 0; k < x.entry(i, 7); k++) {
                got.append((char) x.name(i, k));
            }
            Checks.due(call + ": name of " + i, got.toString().equals(model.names.get(i)) ? 1 : 0, 1);
        }
    }

    private static Archive archive() {
        Archive archive = new Archive();
        int n = RANDOM.nextInt(200) == 0 ? 60 + RANDOM.nextInt(8) : RANDOM.nextInt(6);
        for (int i = 0; i < n; i++) {
            String name = n > 10 ? "file" + i : NAMES[RANDOM.nextInt(NAMES.length)];
            byte[] content = new byte[name.endsWith("/") ? 0 : RANDOM.nextInt(4)];
            RANDOM.nextBytes(content);
            archive.add(name, RANDOM.nextInt(4) == 0 ? 8 : 0, content, content.length, RANDOM.nextInt());
            if (RANDOM.nextInt(3) == 0) {
                archive.with("x".repeat(RANDOM.nextInt(3)), "y".repeat(RANDOM.nextInt(3)), "");
            }
        }
        if (RANDOM.nextInt(5) == 0) {
            archive.endComment(new byte[RANDOM.nextInt(30)]);
        }
        return archive.gap(RANDOM.nextInt(3));
    }

    private static byte[] breakSome(Archive archive) {
        byte[] tape = archive.bytes();
        int end = archive.endPlace();
        int changes = RANDOM.nextInt(3);
        for (int k = 0; k < changes; k++) {
            int at = RANDOM.nextInt(3) == 0 ? end + RANDOM.nextInt(22) : RANDOM.nextInt(tape.length);
            tape[at] = (byte) (RANDOM.nextBoolean() ? tape[at] + RANDOM.nextInt(5) - 2 : RANDOM.nextInt(256));
        }
        int entries = tape[end + 10];
        if (RANDOM.nextInt(20) == 0 && entries > 0) {
            Archive.patchTwo(tape, end + 8, entries - 1);
            Archive.patchTwo(tape, end + 10, entries - 1);
        }
        return RANDOM.nextInt(50) == 0 ? Arrays.copyOf(tape, RANDOM.nextInt(tape.length + 1)) : tape;
    }

    private static final class Fault extends RuntimeException {
        private static final long serialVersionUID = 1L;
        final int number;
        final int place;

        Fault(int number, long place) {
            this.number = number;
            this.place = (int) place;
        }
    }

    private static final class Model {
        final List<String> names = new ArrayList<>();
        int place = -1;
        private final List<long[]> spans = new ArrayList<>();
        private final ByteBuffer tape;
        private final String text;

        Model(byte[] bytes) {
            tape = ByteBuffer.wrap(bytes).order(ByteOrder.LITTLE_ENDIAN);
            text = new String(bytes, StandardCharsets.ISO_8859_1);
        }

        int open() {
            try {
                return entries();
            } catch (Fault fault) {
                place = fault.place;
                return -fault.number;
            }
        }

        private int two(int i) {
            return tape.getShort(i) & 0xffff;
        }

        private long four(int i) {
            return tape.getInt(i) & 0xffffffffL;
        }

        private static void check(boolean isRight, int number, long place) {
            if (!isRight) {
                throw new Fault(number, place);
            }
        }

        private int end() {
            int e = text.lastIndexOf("PK\u0005\u0006");
            while (e >= 0 && (e + 22 > text.length() || e + 22 + two(e + 20) != text.length())) {
                e = e == 0 ? -1 : text.lastIndexOf("PK\u0005\u0006", e - 1);
            }
            return e;
        }

        private int entries() {
            int e = end();
            check(e >= 0, 1, text.length());
            check(tape.getInt(e + 4) == 0, 2, e + 4);
            check(two(e + 8) == two(e + 10), 2, e + 8);
            check(four(e + 12) + four(e + 16) == e, 3, e + 12);
            check(two(e + 10) <= 64, 4, e + 10);
            int first = (int) four(e + 16);
            int c = first;
            for (int i = 0; i < two(e + 10); i++) {
                c = entry(c, first, e);
            }
            check(c == e, 11, c);
            return names.size();
        }

        private int entry(int c, int first, int e) {
            check(e - c >= 46 && text.startsWith("PK\u0001\u0002", c), 5, c);
            int behind = c + 46 + two(c + 28) + two(c + 30) + two(c + 32);
            check(behind <= e, 5, c);
            String name = text.substring(c + 46, c + 46 + two(c + 28));
            numbers(c, name.endsWith("/"));
            check(isName(name), 7, c + 46);
            for (String other : names) {
                check(!bare(name).equals(bare(other)), 8, c + 46);
                check(name.endsWith("/") || !other.startsWith(name + "/"), 8, c + 46);
                check(other.endsWith("/") || !name.startsWith(other + "/"), 8, c + 46);
            }
            names.add(name);
            local(c, first, name);
            return behind;
        }

        private void numbers(int c, boolean isFolder) {
            check(two(c + 6) <= 20, 6, c + 6);
            check((two(c + 8) | 2 | 4 | 2048) == (2 | 4 | 2048), 6, c + 8);
            check(two(c + 10) == 0 || two(c + 10) == 8, 6, c + 10);
            check(two(c + 34) == 0, 6, c + 34);
            check(two(c + 10) == 8 || four(c + 20) == four(c + 24), 6, c + 20);
            check(!isFolder || four(c + 20) == 0 && four(c + 24) == 0 && two(c + 10) == 0, 6, c + 20);
        }

        private static String bare(String name) {
            return name.endsWith("/") ? name.substring(0, name.length() - 1) : name;
        }

        private static boolean isName(String name) {
            String[] parts = bare(name).split("/", -1);
            for (String part : parts) {
                if (part.isEmpty() || part.equals(".") || part.equals("..")) {
                    return false;
                }
            }
            return parts.length <= 8 && name.matches("[ -~&&[^\\\\:*?\"<>|]]{1,60}");
        }

        private void local(int c, int first, String name) {
            long told = four(c + 42);
            check(told + 30 <= first, 9, c + 42);
            int at = (int) told;
            check(text.startsWith("PK\u0003\u0004", at), 9, c + 42);
            check(text.startsWith(text.substring(c + 6, c + 12), at + 4), 9, c + 42);
            check(text.startsWith(text.substring(c + 16, c + 30), at + 14), 9, c + 42);
            check(text.startsWith(name, at + 30), 9, c + 42);
            long behind = told + 30 + name.length() + two(at + 28) + four(c + 20);
            check(behind <= first, 9, c + 42);
            for (long[] span : spans) {
                check(behind <= span[0] || span[1] <= told, 10, c + 42);
            }
            spans.add(new long[] {told, behind});
        }
    }
}
