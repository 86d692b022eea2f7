import java.io.ByteArrayOutputStream;
import java.util.Arrays;
import java.util.Random;
import java.util.zip.DataFormatException;
import java.util.zip.Deflater;
import java.util.zip.Inflater;

/** Promise 8 against java.util.zip: packed bytes that are good, and the same ones broken. */
public final class LibraryTest {
    private static final int OVER = -1;
    private static final int NO_DISTANCE_CODE = -2;
    private static final Random RANDOM = new Random(20261115);

    public static void main(String[] args) {
        int[] answers = new int[40];
        for (int round = 0; round < 1500; round++) {
            byte[] content = content();
            byte[] packed = pack(content);
            goodDue(round, packed, content);
            for (int k = 0; k < 12; k++) {
                answers[brokenDue(round, breakSome(packed))]++;
            }
        }
        for (int answer : new int[] {0, 30, 31, 32, 33, 35, 36, 37}) {
            Checks.due("answer " + answer + " was met", answers[answer] > 0 ? 1 : 0, 1);
        }
        Checks.finish("LibraryTest");
    }

    /** Bytes of few kinds with repeats, so that all kinds of blocks come out. */
    private static byte[] content() {
        byte[] content = new byte[RANDOM.nextInt(RANDOM.nextInt(8) == 0 ? 6000 : 400)];
        int kinds = 1 + RANDOM.nextInt(RANDOM.nextBoolean() ? 256 : 6);
        int k = 0;
        while (k < content.length) {
            int back = k == 0 ? 0 : RANDOM.nextInt(k);
            int again = back > 0 && RANDOM.nextInt(6) == 0 ? RANDOM.nextInt(300) : 0;
            content[k] = (byte) (RANDOM.nextInt(kinds) * 37);
            k++;
            for (int i = 0; i < again && k < content.length; i++) {
                content[k] = content[k - back];
                k++;
            }
        }
        return content;
    }

    private static byte[] pack(byte[] content) {
        Deflater deflater = new Deflater(RANDOM.nextInt(10), true);
        int[] strategies = {Deflater.DEFAULT_STRATEGY, Deflater.FILTERED, Deflater.HUFFMAN_ONLY};
        deflater.setStrategy(strategies[RANDOM.nextInt(3)]);
        ByteArrayOutputStream out = new ByteArrayOutputStream();
        byte[] piece = new byte[20000];
        int half = RANDOM.nextInt(content.length + 1);
        deflater.setInput(content, 0, half);
        while (!deflater.needsInput()) {
            out.write(piece, 0, deflater.deflate(piece, 0, piece.length, Deflater.FULL_FLUSH));
        }
        deflater.setInput(content, half, content.length - half);
        deflater.finish();
        while (!deflater.finished()) {
            out.write(piece, 0, deflater.deflate(piece));
        }
        deflater.end();
        return out.toByteArray();
    }

    private static byte[] breakSome(byte[] packed) {
        byte[] broken = packed.clone();
        int changes = 1 + RANDOM.nextInt(3);
        for (int k = 0; k < changes; k++) {
            int reach = RANDOM.nextBoolean() ? broken.length : Math.min(broken.length, 20);
            broken[RANDOM.nextInt(reach)] ^= (byte) (1 << RANDOM.nextInt(8));
        }
        if (RANDOM.nextInt(4) == 0) {
            broken = Arrays.copyOf(broken, RANDOM.nextInt(broken.length + 3));
        }
        return broken;
    }

    private static void goodDue(int round, byte[] packed, byte[] content) {
        ZipGuard x = Archive.load(new Archive().packed("a", packed, content).bytes());
        x.limits(40000, 2000);
        x.open();
        Checks.due("round " + round + ": take(0)", x.take(0), 0);
        writtenDue(round, x, content);
    }

    private static void writtenDue(int round, ZipGuard x, byte[] due) {
        byte[] got = new byte[x.entry(0, 6)];
        for (int k = 0; k < got.length; k++) {
            got[k] = (byte) x.written(0, k);
        }
        Checks.due("round " + round + ": the bytes are the same", Arrays.equals(got, due) ? 1 : 0, 1);
    }

    private static int brokenDue(int round, byte[] packed) {
        ByteArrayOutputStream out = new ByteArrayOutputStream();
        int most = Math.min(40000, 2000 * packed.length + 16);
        Inflater inflater = new Inflater(true);
        int why = inflate(inflater, packed, out, most);
        byte[] content = out.toByteArray();
        long size = why == 0 ? content.length : 0xffffffffL;
        boolean isLeftOver = why == 0 && inflater.getRemaining() > 0;
        inflater.end();
        ZipGuard x = Archive.load(new Archive().add("a", 8, packed, size, Archive.sumOf(content)).bytes());
        x.limits(40000, 2000);
        x.open();
        int got = x.take(0);
        String call = "round " + round + ": take(0) of broken bytes";
        if (why == OVER) {
            Checks.due(call, got == 21 || got == 22 ? OVER : got, OVER);
        } else if (why == NO_DISTANCE_CODE) {
            Checks.due(call, got == 34 || got == 35 ? NO_DISTANCE_CODE : got, NO_DISTANCE_CODE);
        } else if (why == 30 && got == 33) {
            Checks.due(call + " with more bits", refusalWithMoreBits(packed, most), 33);
        } else {
            Checks.due(call, got, isLeftOver ? 24 : why);
        }
        writtenDue(round, x, why == OVER ? Arrays.copyOf(content, most) : content);
        return got;
    }

    /**
     * The library looks at a code for lengths that has none only behind the row; the document right
     * behind the code itself. Where bits are missing between the two, more of them tell.
     */
    private static int refusalWithMoreBits(byte[] packed, int most) {
        Inflater inflater = new Inflater(true);
        int why = inflate(inflater, Arrays.copyOf(packed, packed.length + 400), new ByteArrayOutputStream(), most);
        inflater.end();
        return why;
    }

    /** Byte by byte, so that what was written before a refusal is known. */
    private static int inflate(Inflater inflater, byte[] packed, ByteArrayOutputStream out, int most) {
        inflater.setInput(packed);
        byte[] one = new byte[1];
        while (!inflater.finished()) {
            try {
                int n = inflater.inflate(one);
                if (n == 0 && !inflater.finished()) {
                    return 30;
                }
                out.write(one, 0, n);
            } catch (DataFormatException e) {
                if (inflater.getBytesWritten() > out.size()) {
                    out.write(one[0]);
                }
                return out.size() > most ? OVER : refusalOf(e.getMessage());
            }
            if (out.size() > most) {
                return OVER;
            }
        }
        return 0;
    }

    private static int refusalOf(String message) {
        switch (message) {
            case "invalid block type":
                return 37;
            case "invalid stored block lengths":
                return 31;
            case "too many length or distance symbols":
                return 32;
            case "invalid literal/length code":
                return 35;
            case "invalid distance code":
                return NO_DISTANCE_CODE;
            case "invalid distance too far back":
                return 36;
            default:
                return 33;
        }
    }
}
