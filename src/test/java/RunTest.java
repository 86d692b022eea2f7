import java.io.ByteArrayOutputStream;
import java.util.Random;
import java.util.zip.DataFormatException;
import java.util.zip.Inflater;

/** All promises together: runs of calls by chance, each answer held against a second guard's. */
public final class RunTest {
    private static final Random RANDOM = new Random(13092026);
    private static final Streams STREAMS = new Streams(RANDOM);
    private static final int MOST_CALLS = 512;
    private static final int[] EDGES = {
        -1, 0, 1, 2, 15, 16, 17, 63, 64, 65, 255, 256, 1999, 2000, 2001, 19999, 20000, 39999, 40000, 40001,
        Integer.MAX_VALUE, Integer.MIN_VALUE
    };

    private static final int[] ANSWERS = new int[38];

    public static void main(String[] args) {
        for (int round = 0; round < 6000; round++) {
            Runs runs = new Runs("round " + round);
            Archive archive = archive();
            byte[] tape = archive.bytes();
            runs.load(tape);
            int entries = runs.open();
            for (int i = 0; i < entries; i++) {
                ANSWERS[runs.take(i)]++;
            }
            int calls = RANDOM.nextInt(60);
            while (calls > 0 && runs.calls() < MOST_CALLS) {
                someCall(runs, tape.length, Math.max(entries, 0));
                calls--;
            }
            runs.lookAtAll();
        }
        for (int answer : new int[] {0, 20, 21, 22, 23, 24, 25, 30, 31, 32, 33, 34, 35, 36, 37}) {
            Checks.due("answer " + answer + " was met", ANSWERS[answer] > 0 ? 1 : 0, 1);
        }
        Checks.finish("RunTest");
    }

    private static Archive archive() {
        Archive archive = new Archive();
        int n = RANDOM.nextInt(5);
        for (int i = 0; i < n; i++) {
            int kind = RANDOM.nextInt(8);
            if (kind == 0) {
                archive.folder("dir" + i + "/");
            } else if (kind < 3) {
                stored(archive, i);
            } else {
                packed(archive, i);
            }
        }
        return archive;
    }

    private static void stored(Archive archive, int i) {
        byte[] content = new byte[RANDOM.nextInt(40)];
        RANDOM.nextBytes(content);
        int sum = Archive.sumOf(content);
        archive.add("stored" + i, 0, content, content.length, STREAMS.oneIn(8) ? sum ^ 1 << RANDOM.nextInt(32) : sum);
    }

    /** Size and sum are what the library unpacks, or near it. */
    private static void packed(Archive archive, int i) {
        byte[] packed = STREAMS.next();
        byte[] content = unpacked(packed);
        long size = STREAMS.oneIn(8) ? Math.max(0, content.length + RANDOM.nextInt(3) - 1) : content.length;
        int sum = Archive.sumOf(content);
        archive.add("packed" + i, 8, packed, STREAMS.oneIn(4) ? 0xffffffffL : size,
                STREAMS.oneIn(8) ? sum ^ 1 << RANDOM.nextInt(32) : sum);
    }

    private static byte[] unpacked(byte[] packed) {
        Inflater inflater = new Inflater(true);
        inflater.setInput(packed);
        byte[] piece = new byte[1];
        ByteArrayOutputStream out = new ByteArrayOutputStream();
        try {
            while (!inflater.finished() && inflater.inflate(piece) > 0) {
                out.write(piece[0]);
            }
        } catch (DataFormatException e) {
            // What came out before is what counts here.
        }
        inflater.end();
        return out.toByteArray();
    }

    private static int some(int below) {
        return STREAMS.oneIn(10) ? EDGES[RANDOM.nextInt(EDGES.length)] : RANDOM.nextInt(below + 2) - 1;
    }

    private static void someCall(Runs runs, int length, int entries) {
        switch (RANDOM.nextInt(24)) {
            case 0:
                runs.feed(RANDOM.nextInt(), RANDOM.nextInt(), RANDOM.nextInt(), RANDOM.nextInt(), RANDOM.nextInt());
                break;
            case 1:
                runs.end(STREAMS.oneIn(2) ? length : some(length));
                break;
            case 2:
            case 3:
            case 4:
                runs.open();
                break;
            case 5:
            case 6:
            case 7:
                runs.alter(some(length), RANDOM.nextInt());
                break;
            case 8:
            case 9:
                runs.limits(STREAMS.oneIn(2) ? some(400) : 40000, STREAMS.oneIn(2) ? some(3) : 2000);
                break;
            case 10:
            case 11:
                runs.takeAll();
                break;
            case 12:
                runs.place();
                break;
            case 13:
                runs.about(some(5));
                break;
            case 14:
                runs.entry(some(entries), some(8));
                break;
            case 15:
                runs.name(some(entries), some(10));
                break;
            case 16:
            case 17:
                runs.written(some(entries), some(60));
                break;
            default:
                ANSWERS[runs.take(some(entries))]++;
        }
    }
}
