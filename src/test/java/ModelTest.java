import java.util.Arrays;
import java.util.Random;

/** Promises 5 and 6 against a second, plain writing of the document: archives broken by chance. */
public final class ModelTest {
    private static final Random RANDOM = new Random(5111202);
    private static final String[] NAMES = {
        "a", "b", "a/", "b/", "a/b", "a/c", "a/b/", "b/a/c", "a/b/c", "ab", "..", "a//b", "x:", "A", "c/d", "c",
        "1/2/3/4/5/6/7/8", "1/2/3/4/5/6/7/8/9", "1/2/3/4/5/6/7/8/", "d", "e", "f", "g/", "g/h", "i", "j", "k"
    };

    public static void main(String[] args) {
        int[] answers = new int[12];
        for (int round = 0; round < 40000; round++) {
            byte[] tape = breakSome(archive());
            Runs runs = new Runs("round " + round);
            runs.load(tape);
            int due = runs.open();
            runs.place();
            answers[due < 0 ? -due : 0]++;
            if (due > 0) {
                runs.takeAll();
                runs.lookAtAll();
            }
        }
        for (int fault = 0; fault < 12; fault++) {
            Checks.due("fault " + fault + " was met", answers[fault] > 0 ? 1 : 0, 1);
        }
        Checks.finish("ModelTest");
    }

    private static Archive archive() {
        Archive archive = new Archive();
        int n = RANDOM.nextInt(200) == 0 ? 60 + RANDOM.nextInt(8) : RANDOM.nextInt(6);
        for (int i = 0; i < n; i++) {
            String name = n > 10 ? "file" + i : NAMES[RANDOM.nextInt(NAMES.length)];
            byte[] content = new byte[name.endsWith("/") ? 0 : RANDOM.nextInt(4)];
            RANDOM.nextBytes(content);
            archive.add(name, RANDOM.nextInt(4) == 0 ? 8 : 0, content, content.length, RANDOM.nextInt());
            if (RANDOM.nextInt(3) == 0) {
                archive.with("x".repeat(RANDOM.nextInt(3)), "y".repeat(RANDOM.nextInt(3)), "");
            }
        }
        if (RANDOM.nextInt(5) == 0) {
            archive.endComment(new byte[RANDOM.nextInt(30)]);
        }
        return archive.gap(RANDOM.nextInt(3));
    }

    private static byte[] breakSome(Archive archive) {
        byte[] tape = archive.bytes();
        int end = archive.endPlace();
        int changes = RANDOM.nextInt(3);
        for (int k = 0; k < changes; k++) {
            int at = RANDOM.nextInt(3) == 0 ? end + RANDOM.nextInt(22) : RANDOM.nextInt(tape.length);
            tape[at] = (byte) (RANDOM.nextBoolean() ? tape[at] + RANDOM.nextInt(5) - 2 : RANDOM.nextInt(256));
        }
        int entries = tape[end + 10];
        if (RANDOM.nextInt(20) == 0 && entries > 0) {
            Archive.patchTwo(tape, end + 8, entries - 1);
            Archive.patchTwo(tape, end + 10, entries - 1);
        }
        return RANDOM.nextInt(50) == 0 ? Arrays.copyOf(tape, RANDOM.nextInt(tape.length + 1)) : tape;
    }
}
