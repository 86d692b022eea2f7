import java.util.Arrays;

/** Promise 8, method 8: a test of its own for each sentence that names a boundary case. */
public final class PackedEdgeTest {
    /** A full code for lengths that has all 19 symbols: 13 of 4 bits, 6 of 5 bits. */
    private static final int[] ALL_19 = {4, 4, 4, 4, 4, 4, 4, 4, 4, 4, 4, 4, 4, 5, 5, 5, 5, 5, 5};
    private static final int[] ORDER = {16, 17, 18, 0, 8, 7, 9, 6, 10, 5, 11, 4, 12, 3, 13, 2, 14, 1, 15};
    /** A code for lengths that repeat: 0 is code 0, 1 is 10, 18 is 110, 16 is 1110, 17 is 1111. */
    private static final int[] REPEATING = {1, 2, 0, 0, 0, 0, 0, 0, 0, 0, 0, 0, 0, 0, 0, 0, 4, 4, 3};
    private static final int[] ENDS = set(257, 255, 1, 256, 1);
    private static final int[] RIGHT = set(257, 'a', 1, 256, 1);

    public static void main(String[] args) {
        blocksAndKind0();
        counts();
        rows();
        sets();
        symbols();
        Checks.finish("PackedEdgeTest");
    }

    private static void blocksAndKind0() {
        Checks.holds("bits of each byte from the lowest on; one bit that tells the last one, two for the kind",
                PackedEdgeTest::heads);
        Checks.holds("BLOCKS: each of kind 2 has codes of its own", PackedEdgeTest::ownCodesInTurn);
        Checks.holds("kind 0: up to the next full byte nothing", PackedEdgeTest::upToTheFullByte);
        Checks.holds("kind 0: a number of two bytes, how many follow", PackedEdgeTest::howManyFollow);
        Checks.holds("kind 0: another one that must be its bits turned (31 if not)", PackedEdgeTest::bitsTurned);
        Checks.holds("kind 0: then these bytes, each read (30) and written", PackedEdgeTest::readThenWritten);
        Checks.holds("CODES, .. the first one highest, by lengths from 1 on and then in the order of symbols",
                PackedEdgeTest::codesInOrder);
        Checks.holds("kind 1: lengths 8 for the symbols 0 to 143, 9 to 255, 7 to 279, 8 to 287, and 5 for 32 distances",
                PackedEdgeTest::kind1);
        Checks.holds("30 bits are wanted that are not there", PackedEdgeTest::bitsNotThere);
        Checks.holds("37 kind 3", PackedEdgeTest::kind3);
    }

    private static void counts() {
        Checks.holds("Kind 2: 5, 5, 4 bits: how many lengths of symbols (257 more), distances (1 more)",
                PackedEdgeTest::fewestAndMost);
        Checks.holds("and of codes for lengths (4 more)", PackedEdgeTest::codesForLengths);
        Checks.holds("32 if the first are above 286 or the second above 30", PackedEdgeTest::tooManyCodes);
        Checks.holds("three bits each in the order 16 17 18 0 8 7 9 6 10 5 11 4 12 3 13 2 14 1 15",
                PackedEdgeTest::orderOfLengths);
    }

    private static void rows() {
        Checks.holds("then by that code the lengths of both in one row: 0 to 15", PackedEdgeTest::lengths0To15);
        Checks.holds("16: the one before 3 to 6 times (two bits)", PackedEdgeTest::theOneBefore);
        Checks.holds("17: 0 3 to 10 times (three bits)", PackedEdgeTest::zeros3To10);
        Checks.holds("18: 0 11 to 138 times (seven bits)", PackedEdgeTest::zeros11To138);
        Checks.holds("(.. bits, read before what follows)", PackedEdgeTest::bitsBefore33);
        Checks.holds("33: 16 with none before", PackedEdgeTest::noneBefore);
        Checks.holds("33: .. or too many in the row", PackedEdgeTest::tooManyInTheRow);
    }

    private static void sets() {
        Checks.holds("33: .. a set that is not RIGHT (.. all 2^-l together are 1): symbols",
                PackedEdgeTest::symbolSets);
        Checks.holds("33: .. of distances also if there is none", PackedEdgeTest::noDistances);
        Checks.holds("33: .. or just one, and its length 1", PackedEdgeTest::oneDistance);
        Checks.holds("33: .. a set that is not RIGHT: distances", PackedEdgeTest::distanceSets);
        Checks.holds("33: .. no length for the symbol 256", PackedEdgeTest::noLengthFor256);
        Checks.holds("33: .. looked at set by set, 256 first, then symbols, then distances",
                PackedEdgeTest::severalWrongSets);
        Checks.holds("33: .. (the code for lengths right behind its own)", PackedEdgeTest::codeForLengthsAtOnce);
    }

    private static void symbols() {
        Checks.holds("Symbols below 256 are bytes; 256 ends the block", PackedEdgeTest::bytesAndEnd);
        Checks.holds("257 to 285 are lengths as publicly told (3 to 258)", PackedEdgeTest::lengths3To258);
        Checks.holds("then a distance (0 to 29: 1 to 32768)", PackedEdgeTest::distances1To32768);
        Checks.holds("that many bytes from so far back are written again, one by one", PackedEdgeTest::oneByOne);
        Checks.holds("(further bits of both are read in their order, before 36)", PackedEdgeTest::bitsBefore36);
        Checks.holds("34 bits that are no code (one at least is read)", PackedEdgeTest::oneBitAtLeast);
        Checks.holds("34 .. as soon as no code begins with them", PackedEdgeTest::asSoonAsNoCode);
        Checks.holds("35 a symbol 286, 287 or a distance 30, 31", PackedEdgeTest::noSuchSymbol);
        Checks.holds("36 it is farther back than bytes of the entry are written", PackedEdgeTest::fartherBack);
    }

    private static BitWriter bits() {
        return new BitWriter();
    }

    private static BitWriter fixed(String text) {
        return bits().head(true, 1).fixedText(text);
    }

    /** A refused entry tells a size that is never reached, so that no other refusal comes first. */
    private static ZipGuard takeDue(String what, byte[] packed, int answer, String written) {
        byte[] content = Archive.bytesOf(written);
        Archive archive = answer == 0 ? new Archive().packed("a", packed, content)
                : new Archive().add("a", 8, packed, 0xffffffffL, 0);
        ZipGuard x = Archive.load(archive.bytes());
        x.limits(40000, 2000);
        Checks.due(what + ": open()", x.open(), 1);
        Checks.due(what + ": take(0)", x.take(0), answer);
        Checks.due(what + ": state", x.entry(0, 5), answer == 0 ? 1 : 2);
        Checks.due(what + ": written", Snapshot.writtenOf(x, 0), written);
        return x;
    }

    private static byte[] cut(byte[] bytes, int n) {
        return Arrays.copyOf(bytes, n);
    }

    private static byte[] stored(boolean isLast, String text) {
        BitWriter bits = bits().head(isLast, 0).toFullByte().put(text.length(), 16).put(~text.length(), 16);
        for (char c : text.toCharArray()) {
            bits.put(c, 8);
        }
        return bits.bytes();
    }

    // ---- blocks, kinds 0, 1 and 3

    private static void heads() {
        takeDue("last, kind 1, then 256", new byte[] {3, 0}, 0, "");
        takeDue("last, kind 0", new byte[] {1, 0, 0, -1, -1}, 0, "");
        takeDue("not the last, kind 0, and nothing behind", new byte[] {0, 0, 0, -1, -1}, 30, "");
        takeDue("not the last, kind 0, and one more", new byte[] {0, 0, 0, -1, -1, 3, 0}, 0, "");
        // A block behind the last one is no block but bytes left over.
        ZipGuard x = Archive.load(new Archive().add("a", 8, new byte[] {1, 0, 0, -1, -1, 3, 0}, 0, 0).bytes());
        x.open();
        Checks.due("a block behind the last one", x.take(0), 24);
        // The first block ends 2, 1 and 0 bits before its byte does: less than a head.
        for (int n = 4; n <= 6; n++) {
            String text = "\u00ff".repeat(n);
            byte[] packed = bits().head(false, 1).fixedText(text).fixed(256).bytes();
            takeDue("no room for a head, " + n, packed, 30, text);
        }
    }

    /** Of one block's codes nothing is left in the next one, nor when it is taken out anew. */
    private static void ownCodesInTurn() {
        int[][] sets = {
            set(286, 'a', 1, 256, 2, 257, 2), set(257, 'b', 1, 256, 1), set(258, 'c', 2, 'd', 2, 256, 2, 257, 2)
        };
        int[][] distances = {{1}, {0}, {0, 1, 2, 2}};
        BitWriter bits = bits();
        for (int k = 0; k < 3; k++) {
            bits.head(false, 2).ownCodes(sets[k].length, distances[k].length, ALL_19);
            row(bits, ALL_19, sets[k], distances[k]).symbol(sets[k], 'a' + k);
            if (k != 1) {
                bits.symbol(sets[k], 257).symbol(distances[k], k == 0 ? 0 : 1);
            }
            bits.symbol(sets[k], 256);
        }
        ZipGuard x = takeDue("three blocks", bits.head(true, 1).fixed(256).bytes(), 0, "aaaabcbcb");
        Checks.due("taken out anew", x.take(0), 0);
        Checks.due("taken out anew", Snapshot.writtenOf(x, 0), "aaaabcbcb");
    }

    /** Nine bits a letter move the head of kind 0 to each bit of a byte; all bits it skips are 1. */
    private static void upToTheFullByte() {
        for (int n = 0; n < 8; n++) {
            String text = "\u00ff".repeat(n);
            BitWriter before = bits().head(false, 1).fixedText(text).fixed(256).head(true, 0);
            int free = (8 - before.bits() % 8) % 8;
            before.put(0x7f, free).put(2, 16).put(0xfffd, 16).put('y', 8).put('z', 8);
            takeDue("behind " + n + " letters, " + free + " bits", before.bytes(), 0, text + "yz");
        }
    }

    private static void howManyFollow() {
        for (int n : new int[] {0, 1, 2, 255, 256, 257, 10000}) {
            String text = "x".repeat(n);
            takeDue(n + " follow", stored(true, text), 0, text);
        }
        byte[] most = bits().head(true, 0).toFullByte().put(0xffff, 16).put(0, 16).put('a', 8).put('b', 8).bytes();
        takeDue("65535, and two are there", most, 30, "ab");
        byte[] sign = bits().head(true, 0).toFullByte().put(0x8000, 16).put(0x7fff, 16).put('a', 8).bytes();
        takeDue("32768, and one is there", sign, 30, "a");
    }

    private static void bitsTurned() {
        for (int bit = 0; bit < 32; bit++) {
            byte[] packed = stored(true, "hello");
            packed[1 + bit / 8] ^= (byte) (1 << bit % 8);
            takeDue("bit " + bit + " is another one", packed, 31, "");
        }
        takeDue("the same, not turned", new byte[] {1, 0, 0, 0, 0}, 31, "");
        takeDue("the same, not turned", new byte[] {1, -1, -1, -1, -1}, 31, "");
        takeDue("31 behind a block", bits().head(false, 1).fixedText("x").fixed(256).head(true, 0).toFullByte()
                .put(1, 32).bytes(), 31, "x");
        for (int n = 1; n < 5; n++) {
            takeDue("numbers cut at " + n, cut(new byte[] {1, 0, 0, 0, 0}, n), 30, "");
        }
    }

    /** A byte that is not there is told before a limit that would refuse it. */
    private static void readThenWritten() {
        byte[] whole = stored(true, "hello");
        for (int n = 5; n < 10; n++) {
            takeDue("cut at " + n, cut(whole, n), 30, "hello".substring(0, n - 5));
        }
        ZipGuard x = Archive.load(new Archive().add("a", 8, cut(whole, 7), 2, 0).add("b", 8, cut(whole, 8), 2, 0)
                .add("c", 8, cut(whole, 7), 5, 0).bytes());
        x.open();
        Checks.due("30 before 20", x.take(0), 30);
        Checks.due("20", x.take(1), 20);
        x.open();
        x.limits(2, 100);
        Checks.due("30 before 22", x.take(2), 30);
        byte[] long17 = stored(true, "0123456789abcdefgh");
        ZipGuard y = Archive.load(new Archive().add("a", 8, cut(long17, 21), 18, 0).add("b", 8, cut(long17, 22), 18, 0)
                .bytes());
        y.open();
        y.limits(40000, 0);
        Checks.due("30 before 21", y.take(0), 30);
        Checks.due("21", y.take(1), 21);
        Checks.due("about(2)", y.about(2), 32);
    }

    /** The codes are written out here: none of them is reckoned. */
    private static void codesInOrder() {
        int[] symbols = set(258, 'a', 2, 'b', 1, 'c', 3, 256, 4, 257, 4);
        int[] distances = {3, 3, 1, 2};
        byte[] packed = ownBlock(symbols, distances).code(0b10, 2).code(0b0, 1).code(0b110, 3).code(0b1111, 4)
                .code(0b0, 1).code(0b1111, 4).code(0b111, 3).code(0b1110, 4).bytes();
        takeDue("three back, then two", packed, 0, "abcabcbcb");
        byte[] others = ownBlock(symbols, distances).code(0b110, 3).code(0b0, 1).code(0b10, 2).code(0b0, 1)
                .code(0b1111, 4).code(0b10, 2).code(0b1111, 4).code(0b110, 3).code(0b1110, 4).bytes();
        takeDue("four back, then one", others, 0, "cbabcbaaaa");
    }

    private static void kind1() {
        for (int b : new int[] {0, 1, 142, 143, 144, 145, 254, 255}) {
            takeDue("symbol " + b, fixed("" + (char) b).fixed(256).bytes(), 0, "" + (char) b);
        }
        // The codes themselves, bit by bit: 0 is 00110000, 143 10111111, 144 110010000, 255 111111111, 280 11000000.
        byte[] packed = bits().head(true, 1).code(0b00110000, 8).code(0b10111111, 8).code(0b110010000, 9)
                .code(0b111111111, 9).code(0b0000001, 7).code(0b00000, 5).code(0b0000000, 7).bytes();
        takeDue("codes", packed, 0, "\0\u008f\u0090\u00ff\u00ff\u00ff\u00ff");
        String twelve = "abcdefghijkl";
        takeDue("279, 7 bits", fixed(twelve).code(0b0010111, 7).put(0, 4).code(0, 5).fixed(256).bytes(), 0,
                twelve + "l".repeat(99));
        takeDue("280, 8 bits", fixed(twelve).code(0b11000000, 8).put(0, 4).code(0b00001, 5).fixed(256).bytes(), 0,
                twelve + "kl".repeat(58).substring(0, 115));
        takeDue("285, 8 bits", fixed("a").code(0b11000101, 8).code(0, 5).fixed(256).bytes(), 0, "a".repeat(259));
        takeDue("286, 8 bits", fixed("a").code(0b11000110, 8).bytes(), 35, "a");
        takeDue("287, 8 bits", fixed("a").code(0b11000111, 8).bytes(), 35, "a");
        takeDue("distance 31, 5 bits", fixed("a").fixed(257).code(31, 5).bytes(), 35, "a");
    }

    /** Each beginning of good packed bytes wants bits that are not there. */
    private static void bitsNotThere() {
        int[] symbols = set(286, 'a', 1, 'b', 3, 256, 3, 285, 3, 257, 3);
        int[] distances = {1, 2, 2};
        byte[] own = ownBlock(symbols, distances).symbol(symbols, 'a').symbol(symbols, 'b').symbol(symbols, 285)
                .symbol(distances, 1).symbol(symbols, 256).bytes();
        String written = "ab" + "ab".repeat(129);
        byte[] coded = fixed("xyz").fixed(284).put(3, 5).code(2, 5).fixed(256).bytes();
        takeDue("own codes", own, 0, written);
        takeDue("no bytes", new byte[0], 30, "");
        for (byte[] good : new byte[][] {own, coded, stored(true, "hello")}) {
            for (int n = 0; n < good.length; n++) {
                ZipGuard x = Archive.load(new Archive().add("a", 8, cut(good, n), 0xffffffffL, 0).bytes());
                x.open();
                Checks.due("cut at " + n + " of " + good.length, x.take(0), 30);
                Checks.due("state", x.entry(0, 5), 2);
            }
        }
        // What stands behind the packed bytes on the tape is not read.
        ZipGuard x = Archive.load(new Archive().add("a", 8, cut(coded, coded.length - 1), 0xffffffffL, 0)
                .store("b", cut(coded, 9)).bytes());
        x.open();
        Checks.due("other bytes behind", x.take(0), 30);
    }

    private static void kind3() {
        takeDue("last", new byte[] {7}, 37, "");
        takeDue("not the last", new byte[] {6}, 37, "");
        takeDue("all bits", new byte[] {-1, -1, -1}, 37, "");
        takeDue("behind a block", bits().head(false, 1).fixedText("x").fixed(256).head(true, 3).bytes(), 37, "x");
        takeDue("behind kind 0", new byte[] {0, 1, 0, -2, -1, 'q', 7}, 37, "q");
    }

    // ---- kind 2: counts and the code for lengths

    private static int[] set(int n, int... symbolsAndLengths) {
        int[] lengths = new int[n];
        for (int k = 0; k < symbolsAndLengths.length; k += 2) {
            lengths[symbolsAndLengths[k]] = symbolsAndLengths[k + 1];
        }
        return lengths;
    }

    /** Kind 2 up to behind its row, whose lengths are written one by one. */
    private static BitWriter ownBlock(int[] symbols, int[] distances) {
        BitWriter bits = bits().head(true, 2).ownCodes(symbols.length, distances.length, ALL_19);
        return row(bits, ALL_19, symbols, distances);
    }

    private static BitWriter row(BitWriter bits, int[] code, int[] symbols, int[] distances) {
        for (int[] lengths : new int[][] {symbols, distances}) {
            for (int length : lengths) {
                bits.symbol(code, length);
            }
        }
        return bits;
    }

    private static void fewestAndMost() {
        int[] fewest = set(257, 0, 1, 256, 1);
        takeDue("257 and 1", ownBlock(fewest, new int[1]).symbol(fewest, 0).symbol(fewest, 256).bytes(), 0, "\0");
        int[] most = set(286, 255, 1, 256, 2, 285, 2);
        int[] distances = set(30, 0, 1, 29, 1);
        byte[] packed = ownBlock(most, distances).symbol(most, 255).symbol(most, 285).symbol(distances, 0)
                .symbol(most, 256).bytes();
        takeDue("286 and 30", packed, 0, "\u00ff".repeat(259));
        byte[] last = ownBlock(most, distances).symbol(most, 255).symbol(most, 285).symbol(distances, 29)
                .put(0, 13).symbol(most, 256).bytes();
        takeDue("the last distance", last, 36, "\u00ff");
    }

    /** The last one told of n is at ORDER[n - 1]; without it the code is not full. */
    private static void codesForLengths() {
        for (int n = 4; n <= 19; n++) {
            for (int told = n - 1; told <= n; told++) {
                if (told >= 4) {
                    BitWriter bits = bits().head(true, 2).put(0, 5).put(0, 5).put(told - 4, 4);
                    for (int k = 0; k < told; k++) {
                        bits.put(ORDER[k] == 18 || k == n - 1 ? 1 : 0, 3);
                    }
                    takeDue(told + " told, the last at " + n, bits.bytes(), told == n ? 30 : 33, "");
                }
            }
        }
        codesThatAreNotTold();
    }

    /** A second block tells fewer codes than the first: the others must have no length any more. */
    private static void codesThatAreNotTold() {
        int[] symbols = set(257, 'a', 1, 256, 1);
        BitWriter bits = bits().head(false, 2).ownCodes(257, 1, ALL_19);
        row(bits, ALL_19, symbols, new int[1]).symbol(symbols, 'a').symbol(symbols, 256);
        bits.head(true, 2).put(0, 5).put(0, 5).put(0, 4).put(0, 3).put(0, 3).put(1, 3).put(1, 3);
        // By a code of 0 and 18 alone no 256 can get a length.
        bits.code(1, 1).put(127, 7).code(1, 1).put(108, 7).code(0, 1);
        takeDue("four behind nineteen", bits.bytes(), 33, "a");
    }

    private static void tooManyCodes() {
        for (int symbols = 285; symbols <= 288; symbols++) {
            for (int distances = 29; distances <= 32; distances++) {
                boolean isRight = symbols <= 286 && distances <= 30;
                byte[] packed = bits().head(true, 2).ownCodes(symbols, distances).bytes();
                takeDue(symbols + " and " + distances, packed, isRight ? 33 : 32, "");
            }
        }
        takeDue("16 bits: the last count is not whole", new byte[] {(byte) 0xfd, -1}, 30, "");
        takeDue("17 bits: nothing else is wanted", new byte[] {(byte) 0xfd, -1, 1}, 32, "");
    }

    /**
     * Each of the 19 in turn is the only one whose code has one bit: in another order another symbol
     * would get it. All lengths and all repeats stand in the row.
     */
    private static void orderOfLengths() {
        int[] symbols = deep(15);
        for (int shortest = 0; shortest < 19; shortest++) {
            int[] code = new int[19];
            for (int k = 0; k < 19; k++) {
                code[(shortest + k) % 19] = k == 0 ? 1 : k < 15 ? 5 : 6;
            }
            BitWriter bits = row(bits().head(true, 2).ownCodes(257, 18, code), code, symbols, new int[1]);
            bits.symbol(code, 16).put(0, 2).symbol(code, 17).put(0, 3).symbol(code, 18).put(0, 7);
            bits.symbol(symbols, 'a').symbol(symbols, 'o').symbol(symbols, 256);
            takeDue("one bit for " + shortest, bits.bytes(), 0, "ao");
        }
    }

    // ---- kind 2: the row

    private static void lengths0To15() {
        int[] symbols = deep(15);
        BitWriter bits = ownBlock(symbols, set(30, 3, 1));
        bits.symbol(symbols, 'o').symbol(symbols, 'a').symbol(symbols, 'n').symbol(symbols, 256);
        takeDue("codes of 15 bits", bits.bytes(), 0, "oan");
        // The last of the symbols' lengths and the first of the distances' stand side by side.
        int[] two = set(258, 'a', 1, 256, 2, 257, 2);
        int[] distances = {2, 2, 1};
        BitWriter again = ownBlock(two, distances).symbol(two, 'a').symbol(two, 'a').symbol(two, 'a').symbol(two, 257)
                .symbol(distances, 2).symbol(two, 256);
        takeDue("both in one row", again.bytes(), 0, "aaaaaa");
    }

    private static BitWriter repeating(int symbols, int distances) {
        return bits().head(true, 2).ownCodes(symbols, distances, REPEATING);
    }

    private static BitWriter repeat(BitWriter bits, int symbol, int times) {
        bits.symbol(REPEATING, symbol);
        return symbol == 16 ? bits.put(times - 3, 2) : symbol == 17 ? bits.put(times - 3, 3) : bits.put(times - 11, 7);
    }

    /** 255 zeros, then 1 for the symbol 255. */
    private static BitWriter upTo255(int distances) {
        return repeat(repeat(repeating(257, distances), 18, 138), 18, 117).symbol(REPEATING, 1);
    }

    private static byte[] oneLetter(BitWriter bits) {
        return bits.symbol(ENDS, 255).symbol(ENDS, 256).bytes();
    }

    /** The symbol 256 and the first distances repeat the 1 of the symbol 255. */
    private static void theOneBefore() {
        takeDue("3 times, over both sets", oneLetter(repeat(upTo255(2), 16, 3)), 0, "\u00ff");
        for (int times = 3; times <= 6; times++) {
            // More ones would be no right set of distances: zeros are repeated instead.
            BitWriter bits = upTo255(1 + times).symbol(REPEATING, 1).symbol(REPEATING, 0);
            takeDue("0 before, " + times + " times", oneLetter(repeat(bits, 16, times)), 0, "\u00ff");
            BitWriter less = upTo255(2 + times).symbol(REPEATING, 1).symbol(REPEATING, 0);
            repeat(less, 16, times).symbol(REPEATING, 0);
            takeDue("0 before, " + times + " times, and one", oneLetter(less), 0, "\u00ff");
        }
        BitWriter four = repeat(upTo255(3), 16, 4);
        takeDue("4 times: three distances of length 1", oneLetter(four), 33, "");
        BitWriter twice = upTo255(7).symbol(REPEATING, 1).symbol(REPEATING, 0);
        takeDue("16 behind 16", oneLetter(repeat(repeat(twice, 16, 3), 16, 3)), 0, "\u00ff");
        BitWriter behind17 = repeat(upTo255(6).symbol(REPEATING, 1), 17, 3);
        takeDue("16 behind 17", oneLetter(repeat(behind17, 16, 3)), 0, "\u00ff");
        BitWriter behind18 = repeat(upTo255(14).symbol(REPEATING, 1), 18, 11);
        takeDue("16 behind 18", oneLetter(repeat(behind18, 16, 3)), 0, "\u00ff");
    }

    private static void zerosDue(int symbol, int times, int left) {
        BitWriter bits = upTo255(times + left).symbol(REPEATING, 1);
        repeat(bits, symbol, times);
        for (int k = 0; k < left; k++) {
            bits.symbol(REPEATING, 0);
        }
        takeDue(symbol + ": " + times + " times and " + left, oneLetter(bits), 0, "\u00ff");
    }

    private static void zeros3To10() {
        for (int times = 3; times <= 10; times++) {
            zerosDue(17, times, 0);
            zerosDue(17, times, 1);
        }
    }

    /** Up to 29 among the distances; above that among the symbols. */
    private static void zeros11To138() {
        for (int times = 11; times <= 29; times++) {
            zerosDue(18, times, 0);
            zerosDue(18, times, 1);
        }
        for (int times = 117; times <= 138; times++) {
            BitWriter bits = repeat(repeating(257, 1), 18, times);
            repeat(bits, 18, 255 - times).symbol(REPEATING, 1).symbol(REPEATING, 1).symbol(REPEATING, 0);
            takeDue("18: " + times + " times", oneLetter(bits), 0, "\u00ff");
        }
    }

    /**
     * 3 + 14 + 57 = 74 bits stand before the row, so that six are left in the byte: five for the
     * code and one of the further bits.
     */
    private static void bitsBefore33() {
        int[] long16 = {2, 2, 2, 5, 0, 0, 0, 0, 0, 0, 0, 0, 0, 0, 0, 0, 5, 4, 3};
        byte[] packed = bits().head(true, 2).ownCodes(257, 1, long16).symbol(long16, 16).bytes();
        Checks.due("its bytes", packed.length, 10);
        takeDue("16 with none before, but without its bits", packed, 30, "");
        byte[] more = bits().head(true, 2).ownCodes(257, 1, long16).symbol(long16, 16).put(0, 2).bytes();
        takeDue("16 with none before, with its bits", more, 33, "");
        tooManyWithoutBits(17, 3);
        tooManyWithoutBits(18, 7);
    }

    /** The row has one place left, so that each repeat is too long; its bits are cut off bit by bit. */
    private static void tooManyWithoutBits(int symbol, int further) {
        for (int shift = 0; shift < 8; shift++) {
            // Zeros one by one instead of a repeat move the last symbol by a bit each.
            BitWriter bits = repeat(repeat(repeating(257, 1), 18, 138), 18, 117 - shift);
            for (int k = 0; k < shift; k++) {
                bits.symbol(REPEATING, 0);
            }
            bits.symbol(REPEATING, 1).symbol(REPEATING, 1).symbol(REPEATING, symbol);
            int free = (8 - bits.bits() % 8) % 8;
            takeDue(symbol + " with " + free + " bits", bits.bytes(), free < further ? 30 : 33, "");
        }
    }

    private static void noneBefore() {
        for (int times = 3; times <= 6; times++) {
            takeDue("16 at first, " + times + " times", repeat(repeating(257, 1), 16, times).bytes(), 33, "");
        }
        BitWriter behind = repeating(257, 1).symbol(REPEATING, 0);
        repeat(repeat(repeat(behind, 16, 3), 18, 138), 18, 113).symbol(REPEATING, 1);
        takeDue("16 behind one", oneLetter(behind.symbol(REPEATING, 1).symbol(REPEATING, 0)), 0, "\u00ff");
        // The second block's row has none before, whatever the first one's had.
        BitWriter second = bits().head(false, 2).ownCodes(257, 1, REPEATING);
        repeat(repeat(second, 18, 138), 18, 117).symbol(REPEATING, 1).symbol(REPEATING, 1).symbol(REPEATING, 0);
        second.symbol(ENDS, 255).symbol(ENDS, 256).head(true, 2).ownCodes(257, 1, REPEATING);
        takeDue("16 at first in the second block", repeat(second, 16, 3).bytes(), 33, "\u00ff");
    }

    private static void tooManyInTheRow() {
        for (int left = 1; left <= 12; left++) {
            for (int[] repeat : new int[][] {{16, 3}, {16, 6}, {17, 3}, {17, 10}, {18, 11}, {18, 138}}) {
                BitWriter bits = upTo255(1 + left).symbol(REPEATING, 1).symbol(REPEATING, 0);
                repeat(bits, repeat[0], repeat[1]);
                for (int k = repeat[1]; k < left; k++) {
                    bits.symbol(REPEATING, 0);
                }
                boolean fits = repeat[1] <= left;
                takeDue(repeat[0] + ", " + repeat[1] + " times, " + left + " left", oneLetter(bits), fits ? 0 : 33,
                        fits ? "\u00ff" : "");
            }
        }
        // 286 + 30 places are the most; 18 may go beyond all of them.
        BitWriter most = repeat(repeat(repeating(286, 30), 18, 138), 18, 138);
        takeDue("far too many", repeat(most, 18, 138).bytes(), 33, "");
    }

    // ---- sets

    private static void setsDue(String what, int[] symbols, int[] distances, boolean isRight) {
        BitWriter bits = ownBlock(symbols, distances);
        if (isRight) {
            bits.symbol(symbols, 'a').symbol(symbols, 256);
        }
        takeDue(what, bits.bytes(), isRight ? 0 : 33, isRight ? "a" : "");
    }

    /** Each length once, 15 for 256, and another one for the letter that is left. */
    private static int[] deep(int lengthOfO) {
        return set(257, 'a', 1, 'b', 2, 'c', 3, 'd', 4, 'e', 5, 'f', 6, 'g', 7, 'h', 8, 'i', 9, 'j', 10, 'k', 11,
                'l', 12, 'm', 13, 'n', 14, 256, 15, 'o', lengthOfO);
    }

    private static void symbolSets() {
        int[] none = {0};
        setsDue("two of length 1", set(257, 'a', 1, 256, 1), none, true);
        setsDue("one of length 1", set(257, 256, 1), none, false);
        setsDue("none", set(257), none, false);
        setsDue("three quarters", set(257, 'a', 1, 256, 2), none, false);
        setsDue("five quarters", set(257, 'a', 1, 'b', 2, 256, 1), none, false);
        setsDue("twice full", set(257, 'a', 1, 'b', 1, 'c', 1, 256, 1), none, false);
        setsDue("full to the last of 15", deep(15), none, true);
        setsDue("all but the last of 15", deep(0), none, false);
        int[] over = deep(15);
        over['p'] = 15;
        setsDue("one of 15 too many", over, none, false);
        int[] all = new int[257];
        Arrays.fill(all, 8);
        all[256] = 8;
        setsDue("257 of length 8", all, none, false);
        all[0] = 9;
        all[256] = 9;
        setsDue("255 of length 8, two of 9", all, none, true);
        Arrays.fill(all, 1);
        setsDue("257 of length 1", all, none, false);
    }

    private static void noDistances() {
        setsDue("one place, none", RIGHT, new int[1], true);
        setsDue("two places, none", RIGHT, new int[2], true);
        setsDue("thirty places, none", RIGHT, new int[30], true);
    }

    private static void oneDistance() {
        for (int at : new int[] {0, 1, 29}) {
            for (int length = 1; length <= 15; length++) {
                setsDue("length " + length + " at " + at, RIGHT, set(30, at, length), length == 1);
            }
        }
        setsDue("one place, length 1", RIGHT, new int[] {1}, true);
    }

    private static void distanceSets() {
        setsDue("two of length 1", RIGHT, new int[] {1, 1}, true);
        setsDue("two of length 2", RIGHT, new int[] {2, 2}, false);
        setsDue("1 and 2", RIGHT, new int[] {1, 2}, false);
        setsDue("1, 2 and 2", RIGHT, new int[] {2, 1, 2}, true);
        setsDue("1, 1 and 15", RIGHT, new int[] {1, 1, 15}, false);
        setsDue("three of length 1", RIGHT, new int[] {1, 1, 1}, false);
        setsDue("four of length 2", RIGHT, new int[] {2, 2, 2, 2}, true);
        setsDue("three of length 2", RIGHT, new int[] {2, 2, 2, 0}, false);
        int[] deep = {1, 2, 3, 4, 5, 6, 7, 8, 9, 10, 11, 12, 13, 14, 15, 15};
        setsDue("up to 15", RIGHT, deep, true);
        deep[15] = 0;
        setsDue("all but the last of 15", RIGHT, deep, false);
        int[] thirty = new int[30];
        Arrays.fill(thirty, 5);
        setsDue("thirty of length 5", RIGHT, thirty, false);
        thirty[0] = 4;
        thirty[29] = 4;
        setsDue("28 of length 5, two of 4", RIGHT, thirty, true);
    }

    private static void noLengthFor256() {
        setsDue("full without 256", set(257, 'a', 1, 'b', 1), new int[1], false);
        setsDue("full with 257 but without 256", set(258, 'a', 1, 257, 1), new int[1], false);
        setsDue("full with 256 and 257", set(258, 'a', 1, 256, 2, 257, 2), new int[1], true);
    }

    /** Whatever else is wrong with them, the answer is one; a right set beside a wrong one does not help. */
    private static void severalWrongSets() {
        int[] noEnd = set(257, 'a', 1, 'b', 1);
        int[] noEndAndWrong = set(257, 'a', 1, 'b', 2);
        int[] wrong = set(257, 'a', 1, 256, 2);
        for (int[] symbols : new int[][] {noEnd, noEndAndWrong, wrong}) {
            setsDue("no distances", symbols, new int[1], false);
            setsDue("right distances", symbols, new int[] {1, 1}, false);
            setsDue("wrong distances", symbols, new int[] {1, 2}, false);
        }
        setsDue("wrong distances alone", RIGHT, new int[] {1, 2}, false);
    }

    /** Nothing of the row is there: with a right code that is 30, with another one 33. */
    private static void codeForLengthsAtOnce() {
        int[][] wrong = {{}, {1}, {7}, {1, 2}, {1, 1, 7}, {1, 1, 1}, {2, 2, 2}, {1, 2, 3}, {1, 2, 3, 4, 5, 6, 7}};
        for (int[] lengths : wrong) {
            byte[] packed = bits().head(true, 2).ownCodes(257, 1, lengths).bytes();
            takeDue("wrong: " + Arrays.toString(lengths), packed, 33, "");
        }
        int[][] right = {{1, 1}, {1, 2, 2}, {2, 2, 2, 2}, {1, 2, 3, 4, 5, 6, 7, 7}};
        for (int[] lengths : right) {
            byte[] packed = bits().head(true, 2).ownCodes(257, 1, lengths).bytes();
            takeDue("right: " + Arrays.toString(lengths), packed, 30, "");
        }
        byte[] whole = bits().head(true, 2).ownCodes(257, 1).bytes();
        takeDue("its own lengths are cut: 30 before 33", cut(whole, whole.length - 1), 30, "");
    }

    // ---- symbols, 34 to 36

    private static void bytesAndEnd() {
        takeDue("256 alone", fixed("").fixed(256).bytes(), 0, "");
        takeDue("0 and 255", fixed("\0\u00ff").fixed(256).bytes(), 0, "\0\u00ff");
        byte[] blocks = bits().head(false, 1).fixed(256).head(false, 1).fixed(256).head(true, 1).fixed(255).fixed(256)
                .bytes();
        takeDue("empty blocks", blocks, 0, "\u00ff");
        // A bit for each symbol: the most symbols that packed bytes can hold.
        BitWriter many = ownBlock(RIGHT, new int[1]);
        for (int k = 0; k < 16000; k++) {
            many.symbol(RIGHT, 'a');
        }
        takeDue("16000 symbols of one bit", many.symbol(RIGHT, 256).bytes(), 0, "a".repeat(16000));
        BitWriter empty = bits();
        for (int k = 0; k < 8000; k++) {
            empty.head(false, 1).fixed(256);
        }
        takeDue("8000 empty blocks", empty.head(true, 1).fixed(256).bytes(), 0, "");
    }

    /** Each symbol with the least and the most of its further bits: the next one goes on from there. */
    private static void lengths3To258() {
        int least = 3;
        for (int symbol = 257; symbol <= 284; symbol++) {
            int further = symbol < 265 ? 0 : (symbol - 261) / 4;
            int most = (1 << further) - 1;
            lengthDue(symbol, further, 0, least);
            lengthDue(symbol, further, most, least + most);
            least += 1 << further;
        }
        Checks.due("behind the last one", least, 259);
        lengthDue(285, 0, 0, 258);
    }

    private static void lengthDue(int symbol, int further, int more, int length) {
        byte[] packed = fixed("ab").fixed(symbol).put(more, further).code(1, 5).fixed(256).bytes();
        takeDue("symbol " + symbol + " and " + more, packed, 0, "ab".repeat(140).substring(0, 2 + length));
    }

    private static void distances1To32768() {
        int least = 1;
        for (int symbol = 0; symbol <= 29; symbol++) {
            int further = symbol < 4 ? 0 : symbol / 2 - 1;
            int most = (1 << further) - 1;
            distanceDue(symbol, further, 0, least);
            distanceDue(symbol, further, most, least + most);
            least += 1 << further;
        }
        Checks.due("behind the last one", least, 32769);
    }

    /** As many bytes as the distance, three of them again, then one that no other bits make. */
    private static void distanceDue(int symbol, int further, int more, int distance) {
        BitWriter bits = bits().head(true, 1);
        String due = manyBytes(bits, distance);
        for (int k = 0; k < 3; k++) {
            due += due.charAt(due.length() - distance);
        }
        byte[] packed = bits.fixed(257).code(symbol, 5).put(more, further).fixed('z').fixed(256).bytes();
        takeDue("distance " + distance, packed, 0, due + "z");
    }

    /** "abc" first, so that what comes from the very beginning can be told, then zeros. */
    private static String manyBytes(BitWriter bits, int n) {
        StringBuilder text = new StringBuilder();
        while (text.length() < n) {
            char c = text.length() < 3 ? "abc".charAt(text.length()) : 0;
            text.append(c);
            bits.fixed(c);
            while (text.length() > 3 && n - text.length() >= 258) {
                bits.fixed(285).code(0, 5);
                text.append("\0".repeat(258));
            }
        }
        return text.toString();
    }

    /** What was just written is read again, and a limit stops in the middle. */
    private static void oneByOne() {
        takeDue("distance 1", fixed("a").fixed(285).code(0, 5).fixed(256).bytes(), 0, "a".repeat(259));
        takeDue("distance 3", fixed("abc").fixed(285).code(2, 5).fixed(256).bytes(), 0, "abc".repeat(87));
        byte[] packed = fixed("ab").fixed(285).code(1, 5).fixed(256).bytes();
        String all = "ab".repeat(130);
        int sum = Archive.sumOf(Archive.bytesOf(all));
        for (int size : new int[] {2, 3, 100, 259, 260, 261}) {
            ZipGuard x = Archive.load(new Archive().add("a", 8, packed, size, sum).bytes());
            x.open();
            Checks.due("size " + size, x.take(0), size < 260 ? 20 : size == 260 ? 0 : 23);
            Checks.due("written", Snapshot.writtenOf(x, 0), all.substring(0, Math.min(size, 260)));
        }
        for (int budget : new int[] {2, 3, 259, 260}) {
            ZipGuard x = Archive.load(new Archive().packed("a", packed, Archive.bytesOf(all)).bytes());
            x.open();
            x.limits(budget, 100);
            Checks.due("budget " + budget, x.take(0), budget < 260 ? 22 : 0);
            Checks.due("written", Snapshot.writtenOf(x, 0), all.substring(0, budget));
        }
    }

    /** 30 comes before 36 as long as further bits are missing, those of the length first. */
    private static void bitsBefore36() {
        String eight = "\u00ff".repeat(8);
        // 3 + 72 + 7 + 5 = 87 bits, then 13 are wanted and one is there.
        takeDue("the distance's bits", fixed(eight).fixed(257).code(29, 5).bytes(), 30, eight);
        takeDue("with them", fixed(eight).fixed(257).code(29, 5).put(0, 13).bytes(), 36, eight);
        // 3 + 72 + 8 = 83 bits, then 5 are wanted, and a distance.
        takeDue("the length's bits, but no distance", fixed(eight).fixed(284).put(31, 5).bytes(), 30, eight);
        // 3 + 27 + 24 + 8 = 62 bits, then 4 are wanted and two are there.
        takeDue("the length's bits", fixed("\u00ff\u00ff\u00ffabc").fixed(280).bytes(), 30, "\u00ff\u00ff\u00ffabc");
        // Nothing at all is written: still the further bits come first.
        takeDue("nothing written, bits missing", fixed("").fixed(257).code(29, 5).bytes(), 30, "");
        takeDue("nothing written", fixed("").fixed(257).code(0, 5).bytes(), 36, "");
    }

    /** With no distances at all one bit is wanted all the same. */
    private static void oneBitAtLeast() {
        int[] symbols = set(258, 'a', 1, 256, 2, 257, 2);
        for (int n = 0; n < 8; n++) {
            String text = "a".repeat(n);
            BitWriter bits = ownBlock(symbols, new int[1]);
            for (int k = 0; k < n; k++) {
                bits.symbol(symbols, 'a');
            }
            bits.symbol(symbols, 257);
            boolean isThere = bits.bits() % 8 != 0;
            takeDue("no distances, behind " + n, bits.bytes(), isThere ? 34 : 30, text);
        }
    }

    /** With one distance of length 1 the bit 1 begins no code, and no further one is wanted. */
    private static void asSoonAsNoCode() {
        int[] symbols = set(258, 'a', 1, 256, 2, 257, 2);
        int lastBits = 0;
        for (int n = 1; n < 9; n++) {
            BitWriter bits = ownBlock(symbols, new int[] {1});
            for (int k = 0; k < n; k++) {
                bits.symbol(symbols, 'a');
            }
            bits.symbol(symbols, 257).put(1, 1);
            lastBits += bits.bits() % 8 == 0 ? 1 : 0;
            takeDue("bit 1 behind " + n, bits.bytes(), 34, "a".repeat(n));
        }
        Checks.due("how often it is the very last bit", lastBits, 1);
        byte[] zero = ownBlock(symbols, new int[] {1}).symbol(symbols, 'a').symbol(symbols, 257).put(0, 1)
                .symbol(symbols, 256).bytes();
        takeDue("bit 0", zero, 0, "aaaa");
        byte[] none = ownBlock(symbols, new int[1]).symbol(symbols, 'a').symbol(symbols, 257).put(0, 1).bytes();
        takeDue("no distances, bit 0", none, 34, "a");
    }

    private static void noSuchSymbol() {
        for (int symbol = 286; symbol <= 287; symbol++) {
            takeDue("symbol " + symbol, fixed("a").fixed(symbol).bytes(), 35, "a");
            takeDue("symbol " + symbol + " at first", fixed("").fixed(symbol).bytes(), 35, "");
        }
        for (int distance = 29; distance <= 31; distance++) {
            // 87 bits: one is left, which is not enough for a distance of 29.
            String eight = "\u00ff".repeat(8);
            byte[] behind = fixed(eight).fixed(257).code(distance, 5).bytes();
            takeDue("distance " + distance, behind, distance < 30 ? 30 : 35, eight);
            byte[] first = fixed("").fixed(257).code(distance, 5).put(0, 13).bytes();
            takeDue("distance " + distance + " at first", first, distance < 30 ? 36 : 35, "");
        }
    }

    /** Neither another entry's bytes count nor its own of an earlier taking. */
    private static void fartherBack() {
        for (int n = 0; n <= 4; n++) {
            String text = "abcd".substring(0, n);
            for (int distance = 1; distance <= 4; distance++) {
                byte[] packed = fixed(text).fixed(257).code(distance - 1, 5).fixed(256).bytes();
                boolean isThere = distance <= n;
                String due = text;
                for (int k = 0; k < 3 && isThere; k++) {
                    due += due.charAt(due.length() - distance);
                }
                takeDue(distance + " back of " + n, packed, isThere ? 0 : 36, due);
            }
        }
        byte[] far = fixed("x").fixed(257).code(1, 5).fixed(256).bytes();
        ZipGuard x = Archive.load(new Archive().store("a", "many bytes").add("b", 8, far, 4, 0).bytes());
        x.open();
        Checks.due("take(0)", x.take(0), 0);
        for (int k = 0; k < 3; k++) {
            Checks.due("take(1)", x.take(1), 36);
            Checks.due("written", Snapshot.writtenOf(x, 1), "x");
        }
        BitWriter overBlocks = bits().head(false, 1).fixedText("abc").fixed(256).head(true, 1).fixed(257).code(2, 5);
        takeDue("back over blocks", overBlocks.fixed(256).bytes(), 0, "abcabc");
    }
}
