import java.io.ByteArrayOutputStream;
import java.util.Arrays;

/** Promise 8, method 8: blocks bit by bit, with the refusals 30 to 37. */
public final class PackedTest {
    /** A full code for lengths that has all 19 symbols: 13 of 4 bits, 6 of 5 bits. */
    private static final int[] ALL_19 = {4, 4, 4, 4, 4, 4, 4, 4, 4, 4, 4, 4, 4, 5, 5, 5, 5, 5, 5};

    public static void main(String[] args) {
        kinds();
        storedBlocks();
        missingBytes();
        literals();
        lengths();
        distances();
        wrongSymbols();
        tooFarBack();
        ownCodes();
        tooManyOwnCodes();
        codeForLengths();
        rows();
        repeatsInRows();
        setsThatAreNotRight();
        noCode();
        severalBlocks();
        leftOver();
        copiesAreRefusedByteByByte();
        Checks.finish("PackedTest");
    }

    private static BitWriter bits() {
        return new BitWriter();
    }

    private static void takeDue(String what, byte[] packed, int answer, String written) {
        takeDue(what, packed, answer, Archive.bytesOf(written));
    }

    /** A refused entry tells a size that is never reached, so that no other refusal comes first. */
    private static void takeDue(String what, byte[] packed, int answer, byte[] written) {
        Archive archive = answer == 0 ? new Archive().packed("a", packed, written)
                : new Archive().add("a", 8, packed, 0x7fffffffL, 0);
        ZipGuard x = Archive.load(archive.bytes());
        x.limits(40000, 2000);
        Checks.due(what + ": open()", x.open(), 1);
        Checks.due(what + ": take(0)", x.take(0), answer);
        Checks.due(what + ": entry(0, 5)", x.entry(0, 5), answer == 0 ? 1 : 2);
        Checks.due(what + ": entry(0, 6)", x.entry(0, 6), written.length);
        for (int k = 0; k < written.length; k++) {
            if (x.written(0, k) != (written[k] & 255)) {
                Checks.due(what + ": written(0, " + k + ")", x.written(0, k), written[k] & 255);
                return;
            }
        }
        Checks.due(what + ": about(2)", x.about(2), written.length);
    }

    private static byte[] cut(byte[] bytes, int n) {
        return Arrays.copyOf(bytes, n);
    }

    private static void kinds() {
        takeDue("no bits", new byte[0], 30, "");
        takeDue("kind 3", bits().head(true, 3).bytes(), 37, "");
        takeDue("kind 3, not the last", bits().head(false, 3).bytes(), 37, "");
        takeDue("kind 3 behind a block", bits().head(false, 1).fixedText("x").fixed(256).head(true, 3).bytes(),
                37, "x");
        // The 0 bits that fill the byte are a block of kind 0 whose numbers are not there.
        takeDue("no block is the last", bits().head(false, 1).fixed(256).bytes(), 30, "");
        // 3 + 9 * n + 7 bits: two, one and none are left where a head wants three.
        for (int n = 4; n <= 6; n++) {
            String text = "\u00ff".repeat(n);
            takeDue("a head cut " + n, bits().head(false, 1).fixedText(text).fixed(256).bytes(), 30, text);
        }
    }

    private static byte[] stored(boolean isLast, String text) {
        ByteArrayOutputStream out = new ByteArrayOutputStream();
        out.write(isLast ? 1 : 0);
        out.write(text.length());
        out.write(text.length() >> 8);
        out.write(~text.length());
        out.write(~text.length() >> 8);
        out.writeBytes(Archive.bytesOf(text));
        return out.toByteArray();
    }

    private static byte[] join(byte[]... parts) {
        ByteArrayOutputStream out = new ByteArrayOutputStream();
        for (byte[] part : parts) {
            out.writeBytes(part);
        }
        return out.toByteArray();
    }

    private static void storedBlocks() {
        takeDue("stored", stored(true, "hello"), 0, "hello");
        takeDue("stored, nothing", stored(true, ""), 0, "");
        String large = "abc\u00fe".repeat(100);
        takeDue("stored, 400", stored(true, large), 0, large);
        takeDue("two stored", join(stored(false, "one"), stored(true, "two")), 0, "onetwo");
        for (int i = 1; i < 5; i++) {
            byte[] wrong = stored(true, "hello");
            wrong[i] ^= 0x20;
            takeDue("turned bits at " + i, wrong, 31, "");
        }
        byte[] skipped = stored(true, "hello");
        skipped[0] |= (byte) 0xf8;
        takeDue("bits up to the full byte", skipped, 0, "hello");
        byte[] behindOthers = join(bits().head(false, 1).fixedText("x").fixed(256).head(true, 0).bytes(),
                cut(Arrays.copyOfRange(stored(true, "yz"), 1, 7), 6));
        takeDue("stored behind others", behindOthers, 0, "xyz");
    }

    private static void missingBytes() {
        byte[] whole = stored(true, "hello");
        for (int n = 1; n < whole.length; n++) {
            takeDue("stored, cut at " + n, cut(whole, n), 30, n < 5 ? "" : "hello".substring(0, n - 5));
        }
        // The byte is wanted before there is a look at the size.
        ZipGuard x = Archive.load(new Archive().add("a", 8, cut(whole, 7), 2, 0)
                .add("b", 8, cut(whole, 8), 2, 0).bytes());
        x.open();
        Checks.due("30 before 20", x.take(0), 30);
        Checks.due("20", x.take(1), 20);
    }

    private static void literals() {
        StringBuilder all = new StringBuilder();
        for (int b = 0; b < 256; b++) {
            all.append((char) b);
        }
        byte[] packed = bits().head(true, 1).fixedText(all.toString()).fixed(256).bytes();
        takeDue("all bytes", packed, 0, all.toString());
        takeDue("nothing", bits().head(true, 1).fixed(256).bytes(), 0, "");
        takeDue("no end", cut(packed, 100), 30, all.substring(0, 99));
    }

    private static void lengths() {
        int symbol = 257;
        int least = 3;
        while (symbol < 285) {
            int further = symbol < 265 ? 0 : (symbol - 261) / 4;
            for (int more : new int[] {0, (1 << further) - 1}) {
                lengthDue(symbol, further, more, least + more);
            }
            least += 1 << further;
            symbol++;
        }
        lengthDue(285, 0, 0, 258);
    }

    private static void lengthDue(int symbol, int further, int more, int length) {
        byte[] packed = bits().head(true, 1).fixedText("ab").fixed(symbol).put(more, further)
                .code(1, 5).fixed(256).bytes();
        StringBuilder due = new StringBuilder("ab");
        for (int k = 0; k < length; k++) {
            due.append(k % 2 == 0 ? 'a' : 'b');
        }
        takeDue("length symbol " + symbol + " and " + more, packed, 0, due.toString());
    }

    private static void distances() {
        int least = 1;
        for (int symbol = 0; symbol < 30; symbol++) {
            int further = symbol < 4 ? 0 : symbol / 2 - 1;
            for (int more : new int[] {0, (1 << further) - 1}) {
                distanceDue(symbol, further, more, least + more);
            }
            least += 1 << further;
        }
        Checks.due("behind the last distance", least, 32769);
    }

    /** As many different bytes as the distance, then three of them again; one less is too far. */
    private static void distanceDue(int symbol, int further, int more, int distance) {
        for (int n : new int[] {distance, distance - 1}) {
            byte[] before = new byte[n];
            BitWriter bits = bits().head(false, 1);
            int filled = 0;
            while (filled < n) {
                before[filled] = (byte) (filled < 3 ? 'a' + filled : 0);
                bits.fixed(before[filled]);
                filled++;
                while (filled > 3 && n - filled >= 258) {
                    bits.fixed(285).code(0, 5);
                    filled += 258;
                }
            }
            bits.fixed(257).code(symbol, 5).put(more, further).fixed(256).head(true, 1).fixed(256);
            byte[] due = Arrays.copyOf(before, n == distance ? n + 3 : n);
            for (int k = n; k < due.length; k++) {
                due[k] = due[k - distance];
            }
            takeDue("distance " + distance + " of " + n, bits.bytes(), n == distance ? 0 : 36, due);
        }
    }

    private static void wrongSymbols() {
        takeDue("286", bits().head(true, 1).fixedText("a").fixed(286).bytes(), 35, "a");
        takeDue("287", bits().head(true, 1).fixedText("a").fixed(287).bytes(), 35, "a");
        takeDue("distance 30", bits().head(true, 1).fixedText("a").fixed(257).code(30, 5).bytes(), 35, "a");
        takeDue("distance 31", bits().head(true, 1).fixedText("a").fixed(257).code(31, 5).bytes(), 35, "a");
        // 3 + 3 * 8 + 8 + 5 = 40 bits: a length's further bits and then its distance are not there.
        takeDue("no distance", bits().head(true, 1).fixedText("abc").fixed(284).put(31, 5).bytes(), 30, "abc");
        takeDue("no further bits", bits().head(true, 1).fixedText("\u00ff\u00ff\u00ffabc").fixed(280).bytes(),
                30, "\u00ff\u00ff\u00ffabc");
        // 3 + 8 * 9 + 7 + 5 = 87 bits: one is left, and a distance of 29 wants 13.
        byte[] far = bits().head(true, 1).fixedText("\u00ff".repeat(8)).fixed(257).code(29, 5).bytes();
        takeDue("30 before 36", far, 30, "\u00ff".repeat(8));
        takeDue("35 before 30", bits().head(true, 1).fixedText("\u00ff".repeat(8)).fixed(257).code(30, 5).bytes(),
                35, "\u00ff".repeat(8));
    }

    private static void tooFarBack() {
        takeDue("nothing is written yet", bits().head(true, 1).fixed(257).code(0, 5).bytes(), 36, "");
        // Only what is written of the entry now counts, neither another entry's nor its own before.
        byte[] good = bits().head(true, 1).fixedText("abcdef").fixed(256).bytes();
        byte[] far = bits().head(true, 1).fixedText("x").fixed(257).code(1, 5).fixed(256).bytes();
        Archive archive = new Archive().packed("a", good, Archive.bytesOf("abcdef")).add("b", 8, far, 9, 0);
        ZipGuard x = Archive.load(archive.bytes());
        x.open();
        Checks.due("take(0)", x.take(0), 0);
        Checks.due("take(1)", x.take(1), 36);
        Checks.due("take(1) again", x.take(1), 36);
        Checks.due("entry(1, 6)", x.entry(1, 6), 1);
    }

    /** Kind 2 up to behind its row, whose lengths are written one by one. */
    private static BitWriter ownBlock(int[] symbols, int[] distances) {
        BitWriter bits = bits().head(true, 2).ownCodes(symbols.length, distances.length, ALL_19);
        for (int length : symbols) {
            bits.symbol(ALL_19, length);
        }
        for (int length : distances) {
            bits.symbol(ALL_19, length);
        }
        return bits;
    }

    private static int[] symbolSet(int n, int... symbolsAndLengths) {
        int[] lengths = new int[n];
        for (int k = 0; k < symbolsAndLengths.length; k += 2) {
            lengths[symbolsAndLengths[k]] = symbolsAndLengths[k + 1];
        }
        return lengths;
    }

    private static void ownCodes() {
        int[] symbols = symbolSet(258, 'a', 1, 'b', 2, 256, 3, 257, 3);
        int[] distances = {2, 1, 2};
        byte[] packed = ownBlock(symbols, distances).symbol(symbols, 'a').symbol(symbols, 'b')
                .symbol(symbols, 'b').symbol(symbols, 257).symbol(distances, 2)
                .symbol(symbols, 257).symbol(distances, 0).symbol(symbols, 256).bytes();
        takeDue("own codes", packed, 0, "abbabbbbb");
        int[] deep = symbolSet(286, 0, 1, 1, 2, 2, 3, 3, 4, 4, 5, 5, 6, 6, 7, 7, 8, 8, 9, 9, 10, 10, 11, 11, 12,
                12, 13, 13, 14, 256, 15, 285, 15);
        int[] all = new int[30];
        Arrays.fill(all, 5);
        all[28] = 4;
        all[29] = 4;
        BitWriter bits = ownBlock(deep, all);
        for (int b = 0; b < 14; b++) {
            bits.symbol(deep, b);
        }
        byte[] due = new byte[14 + 258];
        for (int k = 0; k < due.length; k++) {
            due[k] = (byte) (k < 14 ? k : due[k - 13]);
        }
        bits.symbol(deep, 285).symbol(all, 7).put(0, 2).symbol(deep, 256);
        takeDue("codes of 15 bits", bits.bytes(), 0, due);
        int[] onlyEnd = symbolSet(257, 0, 1, 256, 1);
        takeDue("fewest codes", ownBlock(onlyEnd, new int[1]).symbol(onlyEnd, 256).bytes(), 0, "");
    }

    private static void tooManyOwnCodes() {
        for (int symbols = 286; symbols <= 288; symbols++) {
            for (int distances = 30; distances <= 32; distances++) {
                boolean isRight = symbols == 286 && distances == 30;
                // Of the code for lengths there is nothing: 32 comes before 33.
                takeDue(symbols + " symbols, " + distances + " distances",
                        bits().head(true, 2).ownCodes(symbols, distances).bytes(), isRight ? 33 : 32, "");
            }
        }
        byte[] noCounts = {(byte) 0xfd, (byte) 0xff};
        takeDue("one bit of the counts is not there", noCounts, 30, "");
        takeDue("the counts alone", new byte[] {(byte) 0xfd, (byte) 0xff, 1}, 32, "");
    }

    private static void codeForLengths() {
        takeDue("one of 1", bits().head(true, 2).ownCodes(257, 1, 1).bytes(), 33, "");
        takeDue("too few", bits().head(true, 2).ownCodes(257, 1, 1, 2, 3).bytes(), 33, "");
        takeDue("too many", bits().head(true, 2).ownCodes(257, 1, 1, 1, 1).bytes(), 33, "");
        takeDue("three of 1 and more", bits().head(true, 2).ownCodes(257, 1, 1, 1, 7).bytes(), 33, "");
        byte[] whole = bits().head(true, 2).ownCodes(257, 1, 1, 1).bytes();
        takeDue("cut", cut(whole, 9), 30, "");
        // Four lengths alone, of 16, 17, 18 and 0: with 0 and 18 no 256 can get a length.
        byte[] four = bits().head(true, 2).put(0, 5).put(0, 5).put(0, 4).put(0, 3).put(0, 3).put(1, 3).put(1, 3)
                .code(1, 1).put(127, 7).code(1, 1).put(108, 7).code(0, 1).bytes();
        takeDue("four lengths", four, 33, "");
        // What an earlier block told of lengths must not be left in the row.
        byte[] again = bits().head(false, 2).ownCodes(257, 1, ALL_19).bytes();
        takeDue("no row", again, 30, "");
    }

    private static void rows() {
        int[] symbols = symbolSet(258, 'a', 1, 256, 2, 257, 2);
        int[] distances = {0, 1, 1};
        byte[] whole = ownBlock(symbols, distances).symbol(symbols, 'a').symbol(symbols, 'a')
                .symbol(symbols, 257).symbol(distances, 1).symbol(symbols, 256).bytes();
        takeDue("row", whole, 0, "aaaaa");
        for (int n = 1; n < 120; n += 7) {
            takeDue("row, cut at " + n, cut(whole, n), 30, "");
        }
    }

    /** A code for lengths that repeat: 0 is code 0, 1 is 10, 18 is 110, 16 is 1110, 17 is 1111. */
    private static final int[] REPEATING = {1, 2, 0, 0, 0, 0, 0, 0, 0, 0, 0, 0, 0, 0, 0, 0, 4, 4, 3};

    private static BitWriter repeating(int symbols, int distances) {
        return bits().head(true, 2).ownCodes(symbols, distances, REPEATING);
    }

    private static BitWriter repeat(BitWriter bits, int symbol, int times) {
        bits.symbol(REPEATING, symbol);
        return symbol == 16 ? bits.put(times - 3, 2) : symbol == 17 ? bits.put(times - 3, 3)
                : bits.put(times - 11, 7);
    }

    private static void repeatsInRows() {
        int[] ends = symbolSet(257, 0, 1, 256, 1);
        BitWriter bits = repeating(257, 1).symbol(REPEATING, 1);
        repeat(repeat(repeat(bits, 18, 138), 18, 107), 17, 10).symbol(REPEATING, 1).symbol(REPEATING, 0);
        takeDue("repeats", bits.symbol(ends, 0).symbol(ends, 256).bytes(), 0, "\u0000");
        // 16 repeats over from the symbols to the distances, and zeros too.
        int[] two = symbolSet(257, 255, 1, 256, 1);
        BitWriter over = repeating(257, 4);
        repeat(repeat(over, 18, 138), 17, 3).symbol(REPEATING, 0);
        repeat(repeat(over, 18, 102), 17, 8);
        repeat(over, 16, 3).symbol(REPEATING, 1).symbol(REPEATING, 1);
        over.symbol(REPEATING, 1).symbol(REPEATING, 1).symbol(REPEATING, 0).symbol(REPEATING, 0);
        takeDue("repeated zeros", over.symbol(two, 255).symbol(two, 256).bytes(), 0, "\u00ff");
        BitWriter across = repeating(257, 2);
        repeat(repeat(across, 18, 138), 18, 117).symbol(REPEATING, 1);
        takeDue("across both sets", repeat(across, 16, 3).symbol(two, 255).symbol(two, 256).bytes(), 0, "\u00ff");
        takeDue("16 at first", repeat(repeating(257, 1), 16, 3).bytes(), 33, "");
        tooManyInTheRow();
    }

    /** The row has 259 places; but for what is too many all of it would be right. */
    private static void tooManyInTheRow() {
        int[] two = symbolSet(257, 255, 1, 256, 1);
        for (int times = 3; times <= 6; times++) {
            BitWriter bits = repeating(257, 2);
            repeat(repeat(bits, 18, 138), 18, 117).symbol(REPEATING, 1);
            repeat(bits, 16, times).symbol(two, 255).symbol(two, 256);
            takeDue("16, " + times + " times", bits.bytes(), times == 3 ? 0 : 33, times == 3 ? "\u00ff" : "");
        }
        for (int times = 3; times <= 10; times++) {
            zerosDue(17, times, 5);
        }
        for (int times = 11; times <= 138; times++) {
            zerosDue(18, times, 15);
        }
        furtherBitsComeFirst();
    }

    /** Zeros for all distances: as many as are left over one by one, then the repeated ones. */
    private static void zerosDue(int symbol, int times, int places) {
        int[] two = symbolSet(257, 255, 1, 256, 1);
        BitWriter bits = repeating(257, places);
        repeat(repeat(bits, 18, 138), 18, 117).symbol(REPEATING, 1).symbol(REPEATING, 1);
        for (int k = times; k < places; k++) {
            bits.symbol(REPEATING, 0);
        }
        repeat(bits, symbol, times).symbol(two, 255).symbol(two, 256);
        boolean fits = times <= places;
        takeDue(symbol + ", " + times + " times", bits.bytes(), fits ? 0 : 33, fits ? "\u00ff" : "");
    }

    /** 3 + 14 + 57 = 74 bits: six are left in the byte, five for the code and one for its two bits. */
    private static void furtherBitsComeFirst() {
        int[] full = {2, 2, 2, 5, 0, 0, 0, 0, 0, 0, 0, 0, 0, 0, 0, 0, 5, 4, 3};
        byte[] packed = bits().head(true, 2).ownCodes(257, 1, full).symbol(full, 16).bytes();
        Checks.due("its bytes", packed.length, 10);
        takeDue("16 at first, without its bits", packed, 30, "");
    }

    private static void setsThatAreNotRight() {
        int[] right = symbolSet(257, 'a', 1, 256, 1);
        setsDue("right", right, new int[] {0}, 0);
        setsDue("no 256", symbolSet(257, 'a', 1, 'b', 1), new int[] {0}, 33);
        setsDue("256 alone", symbolSet(257, 256, 1), new int[] {0}, 33);
        setsDue("none at all", symbolSet(257), new int[] {0}, 33);
        setsDue("too few symbols", symbolSet(257, 'a', 1, 256, 2), new int[] {0}, 33);
        setsDue("too many symbols", symbolSet(257, 'a', 1, 'b', 1, 256, 1), new int[] {0}, 33);
        setsDue("too many by one of 15", symbolSet(257, 'a', 1, 'b', 1, 256, 15), new int[] {0}, 33);
        setsDue("no distances", right, new int[] {0, 0, 0}, 0);
        setsDue("one of length 1", right, new int[] {0, 1}, 0);
        setsDue("one of length 2", right, new int[] {0, 2}, 33);
        setsDue("one of length 15", right, new int[] {15}, 33);
        setsDue("two of length 1", right, new int[] {1, 1}, 0);
        setsDue("three of length 1", right, new int[] {1, 1, 1}, 33);
        setsDue("1 and 2", right, new int[] {1, 2}, 33);
        setsDue("two of length 2", right, new int[] {2, 2}, 33);
        setsDue("1, 2 and 2", right, new int[] {1, 2, 2}, 0);
    }

    private static void setsDue(String what, int[] symbols, int[] distances, int answer) {
        BitWriter bits = ownBlock(symbols, distances);
        if (answer == 0) {
            bits.symbol(symbols, 'a').symbol(symbols, 256);
        }
        takeDue(what, bits.bytes(), answer, answer == 0 ? "a" : "");
    }

    private static void noCode() {
        int[] symbols = symbolSet(258, 'a', 1, 256, 2, 257, 2);
        for (int bit = 0; bit < 2; bit++) {
            byte[] none = ownBlock(symbols, new int[] {0}).symbol(symbols, 'a').symbol(symbols, 257)
                    .put(bit, 1).bytes();
            takeDue("no distances, bit " + bit, none, 34, "a");
        }
        byte[] one = ownBlock(symbols, new int[] {0, 1}).symbol(symbols, 'a').symbol(symbols, 'a')
                .symbol(symbols, 257).put(0, 1).symbol(symbols, 256).bytes();
        takeDue("one distance, bit 0", one, 0, "aaaaa");
        byte[] other = ownBlock(symbols, new int[] {0, 1}).symbol(symbols, 'a').symbol(symbols, 'a')
                .symbol(symbols, 257).put(1, 1).bytes();
        takeDue("one distance, bit 1", other, 34, "aa");
        oneBitAtLeastIsRead(symbols);
    }

    /** With no distances one bit is wanted all the same: 30 where the bytes end before it. */
    private static void oneBitAtLeastIsRead(int[] symbols) {
        for (int literals = 0; literals < 8; literals++) {
            BitWriter bits = ownBlock(symbols, new int[] {0});
            int before = bits.bits();
            for (int k = 0; k < literals; k++) {
                bits.symbol(symbols, 'a');
            }
            bits.symbol(symbols, 257);
            boolean isFull = (before + literals + 2) % 8 == 0;
            takeDue("no distances behind " + literals, bits.bytes(), isFull ? 30 : 34, "a".repeat(literals));
        }
    }

    private static void severalBlocks() {
        BitWriter bits = bits();
        StringBuilder due = new StringBuilder();
        int[] symbols = symbolSet(258, 'x', 1, 256, 2, 257, 2);
        for (int k = 0; k < 5; k++) {
            bits.head(false, 1).fixedText("ab" + k).fixed(256);
            bits.head(false, 2).ownCodes(258, 1, ALL_19);
            for (int length : symbols) {
                bits.symbol(ALL_19, length);
            }
            bits.symbol(ALL_19, 1).symbol(symbols, 'x').symbol(symbols, 257).code(0, 1).symbol(symbols, 256);
            bits.head(false, 0).toFullByte().put(2, 16).put(0xfffd, 16).put('y', 8).put('z', 8);
            due.append("ab").append(k).append("xxxxyz");
        }
        takeDue("several blocks", bits.head(true, 1).fixed(256).bytes(), 0, due.toString());
        // A distance reaches back over blocks.
        byte[] back = bits().head(false, 1).fixedText("abc").fixed(256).head(true, 1).fixed(257).code(2, 5)
                .fixed(256).bytes();
        takeDue("back over blocks", back, 0, "abcabc");
    }

    private static void leftOver() {
        byte[] packed = bits().head(true, 1).fixedText("abc").fixed(256).put(7, 3).bytes();
        takeDue("bits of the last byte", packed, 0, "abc");
        byte[] full = bits().head(true, 1).fixedText("\u00ff\u00ff\u00ff\u00ff\u00ff\u00ff").fixed(256).bytes();
        Checks.due("64 bits", full.length, 8);
        takeDue("no bit left", full, 0, "\u00ff".repeat(6));
        for (byte[] one : new byte[][] {packed, full, stored(true, "abc")}) {
            ZipGuard x = Archive.load(new Archive().add("a", 8, cut(one, one.length + 1),
                    one == full ? 6 : 3, 0).bytes());
            x.open();
            Checks.due("a byte left", x.take(0), 24);
        }
    }

    private static void copiesAreRefusedByteByByte() {
        byte[] packed = bits().head(true, 1).fixedText("ab").fixed(285).code(1, 5).fixed(256).bytes();
        ZipGuard x = Archive.load(new Archive().add("a", 8, packed, 7, 0).add("b", 8, packed, 260, 0).bytes());
        x.open();
        Checks.due("take(0)", x.take(0), 20);
        Checks.due("entry(0, 6)", x.entry(0, 6), 7);
        Checks.due("written(0, 6)", x.written(0, 6), 'a');
        x.limits(20, 2000);
        Checks.due("take(1)", x.take(1), 22);
        Checks.due("entry(1, 6)", x.entry(1, 6), 13);
        x.limits(1000, 1);
        Checks.due("take(1)", x.take(1), 21);
        Checks.due("entry(1, 6)", x.entry(1, 6), packed.length + 16);
    }
}
