import java.io.ByteArrayOutputStream;
import java.util.Arrays;
import java.util.Random;
import java.util.zip.Deflater;

/** Packed bytes by chance: blocks of all kinds, most of them good, with code sets of all shapes. */
final class Streams {
    private final Random random;

    Streams(Random random) {
        this.random = random;
    }

    boolean oneIn(int n) {
        return random.nextInt(n) == 0;
    }

    byte[] next() {
        byte[] packed = oneIn(3) ? deflated() : blocks();
        if (oneIn(4) && packed.length > 0) {
            packed[random.nextInt(packed.length)] ^= (byte) (1 << random.nextInt(8));
        }
        return oneIn(6) ? Arrays.copyOf(packed, random.nextInt(packed.length + 3)) : packed;
    }

    private byte[] deflated() {
        byte[] content = new byte[random.nextInt(300)];
        int kinds = 1 + random.nextInt(20);
        for (int k = 0; k < content.length; k++) {
            content[k] = (byte) (random.nextInt(kinds) * 11);
        }
        Deflater deflater = new Deflater(random.nextInt(10), true);
        deflater.setInput(content);
        deflater.finish();
        byte[] piece = new byte[1000];
        ByteArrayOutputStream out = new ByteArrayOutputStream();
        while (!deflater.finished()) {
            out.write(piece, 0, deflater.deflate(piece));
        }
        deflater.end();
        return out.toByteArray();
    }

    private byte[] blocks() {
        BitWriter bits = new BitWriter();
        int n = 1 + random.nextInt(3);
        for (int k = 1; k <= n; k++) {
            int kind = oneIn(40) ? 3 : random.nextInt(3);
            bits.head(k == n && !oneIn(20), kind);
            if (kind == 0) {
                stored(bits);
            } else if (kind == 1) {
                coded(bits, fixedSymbols(), fixedDistances());
            } else if (kind == 2) {
                own(bits);
            }
        }
        return bits.bytes();
    }

    private void stored(BitWriter bits) {
        int n = random.nextInt(6);
        bits.toFullByte().put(n, 16).put(oneIn(20) ? n : ~n, 16);
        for (int k = 0; k < n; k++) {
            bits.put(random.nextInt(256), 8);
        }
    }

    static int[] fixedSymbols() {
        int[] lengths = new int[288];
        Arrays.fill(lengths, 0, 144, 8);
        Arrays.fill(lengths, 144, 256, 9);
        Arrays.fill(lengths, 256, 280, 7);
        Arrays.fill(lengths, 280, 288, 8);
        return lengths;
    }

    static int[] fixedDistances() {
        int[] lengths = new int[32];
        Arrays.fill(lengths, 5);
        return lengths;
    }

    /** Symbols by chance that have a code; most of them literals, then 256. */
    private void coded(BitWriter bits, int[] symbols, int[] distances) {
        int n = random.nextInt(12);
        for (int k = 0; k < n; k++) {
            boolean isByte = k < 3 || oneIn(3);
            int symbol = isByte ? someWithCode(symbols, 0, 256) : someWithCode(symbols, 257, symbols.length);
            if (symbol < 0) {
                continue;
            }
            bits.symbol(symbols, symbol);
            if (symbol > 256) {
                again(bits, symbol, distances);
            }
        }
        if (symbols[256] > 0) {
            bits.symbol(symbols, 256);
        }
    }

    private void again(BitWriter bits, int symbol, int[] distances) {
        int further = symbol < 265 || symbol > 284 ? 0 : (symbol - 261) / 4;
        bits.put(random.nextInt(1 << further), further);
        int distance = someWithCode(distances, 0, oneIn(2) ? Math.min(3, distances.length) : distances.length);
        if (distance < 0 || oneIn(20)) {
            bits.put(random.nextInt(2), 1);
            return;
        }
        bits.symbol(distances, distance);
        bits.put(0, distance < 4 || distance > 29 ? 0 : distance / 2 - 1);
    }

    private int someWithCode(int[] lengths, int from, int below) {
        for (int k = 0; k < 200 && from < below; k++) {
            int symbol = from + random.nextInt(below - from);
            if (lengths[symbol] > 0) {
                return symbol;
            }
        }
        return -1;
    }

    private void own(BitWriter bits) {
        int[] symbols = set(257 + random.nextInt(oneIn(8) ? 32 : 30), 2 + random.nextInt(12), 15);
        giveLength(symbols, symbols.length - 1 - random.nextInt(symbols.length - 256));
        giveLength(symbols, 256);
        int[] distances = distanceSet();
        int[] row = Arrays.copyOf(symbols, symbols.length + distances.length);
        System.arraycopy(distances, 0, row, symbols.length, distances.length);
        int[] forLengths = set(19, 19, 7);
        if (oneIn(15)) {
            forLengths[random.nextInt(19)] = random.nextInt(8);
        }
        bits.ownCodes(symbols.length, distances.length, forLengths);
        row(bits, row, forLengths);
        coded(bits, symbols, distances);
    }

    private int[] distanceSet() {
        int n = 1 + random.nextInt(oneIn(8) ? 32 : 30);
        int codes = Math.min(n, random.nextInt(6));
        int[] lengths = codes > 1 ? set(n, codes, 15) : new int[n];
        if (codes == 1) {
            lengths[random.nextInt(n)] = oneIn(5) ? 2 : 1;
        }
        return lengths;
    }

    /** A full set of so many codes: codes are split in two until there are enough. */
    private int[] set(int places, int codes, int longest) {
        int[] split = new int[codes];
        int have = 1;
        while (have < codes) {
            int k = random.nextInt(have);
            if (split[k] < longest) {
                split[k]++;
                split[have] = split[k];
                have++;
            }
        }
        int[] lengths = new int[places];
        for (int length : split) {
            int k = random.nextInt(places);
            while (lengths[k] != 0) {
                k = (k + 1) % places;
            }
            lengths[k] = length;
        }
        return lengths;
    }

    private void giveLength(int[] lengths, int symbol) {
        if (lengths[symbol] == 0 && !oneIn(15)) {
            int other = someWithCode(lengths, 0, lengths.length);
            if (other >= 0) {
                lengths[symbol] = lengths[other];
                lengths[other] = oneIn(15) ? 1 : 0;
            }
        }
    }

    /** The row's lengths, as runs where there are some, now and then one too long. */
    private void row(BitWriter bits, int[] row, int[] forLengths) {
        int k = 0;
        while (k < row.length) {
            int run = 1;
            while (k + run < row.length && row[k + run] == row[k]) {
                run++;
            }
            int more = oneIn(60) ? 1 : 0;
            if (row[k] == 0 && run >= 11) {
                run = Math.min(run + more, 138);
                bits.symbol(forLengths, 18).put(run - 11, 7);
            } else if (row[k] == 0 && run >= 3) {
                run = Math.min(run + more, 10);
                bits.symbol(forLengths, 17).put(run - 3, 3);
            } else if (run >= 3 && k > 0 && row[k - 1] == row[k] || oneIn(400)) {
                run = Math.max(3, Math.min(run + more, 6));
                bits.symbol(forLengths, 16).put(run - 3, 2);
            } else {
                run = 1;
                bits.symbol(forLengths, row[k]);
            }
            k += run;
        }
    }
}
