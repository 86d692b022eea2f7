import java.util.Arrays;

/** Promises 7 to 9, taking out: a test of its own for each sentence that names a boundary case. */
public final class TakeEdgeTest {
    private static final int MIN = Integer.MIN_VALUE;
    private static final int MAX = Integer.MAX_VALUE;
    private static final String TWENTY = "0123456789abcdefghij";

    public static void main(String[] args) {
        taking();
        refusals();
        limitsTakeTakeAll();
        Checks.finish("TakeEdgeTest");
    }

    private static void taking() {
        Checks.holds("TAKING an entry OUT writes its bytes .. in place of what was written of it before",
                TakeEdgeTest::inPlaceOfBefore);
        Checks.holds("Before each byte: where there is none, none is refused", TakeEdgeTest::noByteNoRefusal);
        Checks.holds("20 as many as its SIZE are written", TakeEdgeTest::sizeIsWritten);
        Checks.holds("20 .. (of it, now)", TakeEdgeTest::ofItNow);
        Checks.holds("21 as many as RATIO times its packed size and 16", TakeEdgeTest::ratioIsWritten);
        Checks.holds("22 as many as BUDGET in all", TakeEdgeTest::budgetIsWritten);
        Checks.holds("22 .. by all entries", TakeEdgeTest::byAllEntries);
        Checks.holds("22 .. since it was opened", TakeEdgeTest::sinceOpened);
        Checks.holds("22 .. what is written anew counts anew", TakeEdgeTest::countsAnew);
        Checks.holds("Before each byte: 20 .., 21 .., 22: it is refused, in this order", TakeEdgeTest::orderOf20To22);
        Checks.holds("Method 0: the bytes as they are", TakeEdgeTest::bytesAsTheyAre);
    }

    private static void refusals() {
        Checks.holds("Behind the last block: 23 less than SIZE were written", TakeEdgeTest::lessThanSize);
        Checks.holds("24 packed bytes are left over (a whole one at least)", TakeEdgeTest::leftOver);
        Checks.holds("25 the sum of what was written .. is another one", TakeEdgeTest::anotherSum);
        Checks.holds("25 .. (the public one of 32 bits, 0xedb88320)", TakeEdgeTest::publicSum);
        Checks.holds("Behind the last block: 23, then 24, then 25", TakeEdgeTest::orderOf23To25);
        Checks.holds("A refusal leaves what was written: the entry is a PART", TakeEdgeTest::refusalLeavesAPart);
    }

    private static void limitsTakeTakeAll() {
        Checks.holds("limits: Budget and ratio for what is taken out from now on", TakeEdgeTest::fromNowOn);
        Checks.holds("limits: IllegalArgumentException: budget is not 0 .. 40000", TakeEdgeTest::wrongBudget);
        Checks.holds("limits: IllegalArgumentException: .. ratio not 0 .. 2000", TakeEdgeTest::wrongRatio);
        Checks.holds("limits: the largest ones", TakeEdgeTest::largestLimits);
        Checks.holds("take: 0, or why it is refused", TakeEdgeTest::zeroOrWhy);
        Checks.holds("take: (a folder: 0, nothing is written, its state is 1 then)", TakeEdgeTest::folder);
        Checks.holds("take: IllegalStateException: none is open", TakeEdgeTest::takeNoneOpen);
        Checks.holds("take: IndexOutOfBoundsException: there is no such entry", TakeEdgeTest::takeNoEntry);
        Checks.holds("takeAll: All entries in their order", TakeEdgeTest::allInOrder);
        Checks.holds("takeAll: until one is refused: how many were not", TakeEdgeTest::untilOneIsRefused);
        Checks.holds("takeAll: of no entries", TakeEdgeTest::allOfNone);
        Checks.holds("takeAll: IllegalStateException: none is open", TakeEdgeTest::takeAllNoneOpen);
    }

    private static ZipGuard opened(Archive archive, int entries) {
        ZipGuard x = Archive.load(archive.bytes());
        Checks.due("open()", x.open(), entries);
        return x;
    }

    private static void takeDue(ZipGuard x, int entry, int answer, String written) {
        Checks.due("take(" + entry + ")", x.take(entry), answer);
        stateDue(x, entry, answer == 0 ? 1 : 2, written);
    }

    private static void stateDue(ZipGuard x, int entry, int state, String written) {
        Checks.due("state of " + entry, x.entry(entry, 5), state);
        Checks.due("how many of " + entry, x.entry(entry, 6), written.length());
        Checks.due("written of " + entry, Snapshot.writtenOf(x, entry), written);
        Checks.due("behind what is written of " + entry, x.written(entry, written.length()), -1);
    }

    private static byte[] fixed(String text) {
        return new BitWriter().head(true, 1).fixedText(text).fixed(256).bytes();
    }

    private static int sumOf(String text) {
        return Archive.sumOf(Archive.bytesOf(text));
    }

    // ---- taking, 20 to 22

    /** Written whole, then less, nothing, and whole again; the entry beside it stays. */
    private static void inPlaceOfBefore() {
        ZipGuard x = opened(new Archive().store("a", TWENTY).store("b", "beside"), 2);
        takeDue(x, 1, 0, "beside");
        takeDue(x, 0, 0, TWENTY);
        x.limits(26 + 3, 100);
        takeDue(x, 0, 22, "012");
        takeDue(x, 0, 22, "");
        stateDue(x, 1, 1, "beside");
        x.limits(40000, 100);
        takeDue(x, 0, 0, TWENTY);
        takeDue(x, 1, 0, "beside");
        stateDue(x, 0, 1, TWENTY);
    }

    private static void noByteNoRefusal() {
        ZipGuard x = opened(new Archive().store("a", "").packed("b", fixed(""), new byte[0]).store("c", "!"), 3);
        x.limits(0, 0);
        takeDue(x, 0, 0, "");
        takeDue(x, 1, 0, "");
        takeDue(x, 2, 22, "");
        Checks.due("about(2)", x.about(2), 0);
    }

    private static void sizeIsWritten() {
        byte[] packed = fixed("abc");
        Archive archive = new Archive();
        for (int size = 0; size < 4; size++) {
            archive.add("size" + size, 8, packed, size, sumOf("abc"));
        }
        ZipGuard x = opened(archive, 4);
        takeDue(x, 0, 20, "");
        takeDue(x, 1, 20, "a");
        takeDue(x, 2, 20, "ab");
        takeDue(x, 3, 0, "abc");
    }

    private static void ofItNow() {
        byte[] packed = fixed("abcd");
        ZipGuard x = opened(new Archive().add("a", 8, packed, 3, 0).add("b", 8, packed, 4, sumOf("abcd")), 2);
        for (int k = 0; k < 3; k++) {
            takeDue(x, 0, 20, "abc");
            takeDue(x, 1, 0, "abcd");
        }
        Checks.due("about(2)", x.about(2), 21);
    }

    /** Many bytes of few packed ones; as many come out as the ratio lets through, or all of them. */
    private static void ratioIsWritten() {
        byte[] packed = new BitWriter().head(true, 1).fixed('z').fixed(285).code(0, 5).fixed(285).code(0, 5)
                .fixed(285).code(0, 5).fixed(285).code(0, 5).fixed(256).bytes();
        int all = 1 + 4 * 258;
        int n = packed.length;
        byte[] content = new byte[all];
        Arrays.fill(content, (byte) 'z');
        ZipGuard x = opened(new Archive().packed("a", packed, content).store("b", TWENTY).store("c",
                TWENTY.substring(0, 16)).store("d", TWENTY.substring(0, 17)), 4);
        int enough = (all - 16 + n - 1) / n;
        for (int ratio : new int[] {0, 1, 2, enough - 1, enough, enough + 1, 2000}) {
            x.limits(40000, ratio);
            int most = ratio * n + 16;
            takeDue(x, 0, most < all ? 21 : 0, "z".repeat(Math.min(most, all)));
        }
        x.limits(40000, 0);
        takeDue(x, 1, 21, TWENTY.substring(0, 16));
        takeDue(x, 2, 0, TWENTY.substring(0, 16));
        takeDue(x, 3, 21, TWENTY.substring(0, 16));
        x.limits(40000, 1);
        takeDue(x, 1, 0, TWENTY);
        exactlyTheRatio();
    }

    /** With ratio 1, 5 packed bytes and 21 written ones are just right, 22 are not. */
    private static void exactlyTheRatio() {
        for (int more = 0; more < 2; more++) {
            byte[] packed = new BitWriter().head(true, 1).fixedText("ab").fixed(269).put(more, 2).code(1, 5)
                    .fixed(256).bytes();
            Checks.due("packed bytes", packed.length, 5);
            String text = "ab".repeat(11).substring(0, 21 + more);
            ZipGuard x = opened(new Archive().packed("a", packed, Archive.bytesOf(text)), 1);
            x.limits(40000, 1);
            takeDue(x, 0, more == 0 ? 0 : 21, text.substring(0, 21));
            x.limits(40000, 2);
            takeDue(x, 0, 0, text);
        }
    }

    private static void budgetIsWritten() {
        for (int budget : new int[] {0, 1, 19, 20, 21}) {
            ZipGuard x = opened(new Archive().store("a", TWENTY), 1);
            x.limits(budget, 100);
            takeDue(x, 0, budget < 20 ? 22 : 0, TWENTY.substring(0, Math.min(20, budget)));
            Checks.due("about(2)", x.about(2), Math.min(20, budget));
        }
    }

    private static void byAllEntries() {
        ZipGuard x = opened(new Archive().store("a", TWENTY).folder("d/").store("b", TWENTY).store("c", "x"), 4);
        x.limits(40, 100);
        takeDue(x, 0, 0, TWENTY);
        takeDue(x, 1, 0, "");
        takeDue(x, 2, 0, TWENTY);
        takeDue(x, 3, 22, "");
        x.limits(41, 100);
        takeDue(x, 3, 0, "x");
        takeDue(x, 3, 22, "");
        // A budget below what is written already refuses the first byte.
        x.limits(5, 100);
        takeDue(x, 0, 22, "");
        Checks.due("about(2)", x.about(2), 41);
    }

    private static void sinceOpened() {
        ZipGuard x = opened(new Archive().store("a", TWENTY), 1);
        x.limits(20, 100);
        for (int k = 0; k < 3; k++) {
            takeDue(x, 0, 0, TWENTY);
            takeDue(x, 0, 22, "");
            Checks.due("about(2)", x.about(2), 20);
            Checks.due("open()", x.open(), 1);
            Checks.due("about(2)", x.about(2), 0);
        }
    }

    private static void countsAnew() {
        ZipGuard x = opened(new Archive().store("a", TWENTY).add("b", 0, Archive.bytesOf("part"), 4, 0), 2);
        x.limits(49, 100);
        takeDue(x, 0, 0, TWENTY);
        takeDue(x, 1, 25, "part");
        takeDue(x, 1, 25, "part");
        takeDue(x, 0, 0, TWENTY);
        takeDue(x, 1, 22, "p");
        Checks.due("about(2)", x.about(2), 49);
    }

    private static void orderOf20To22() {
        byte[] packed = fixed(TWENTY);
        String sixteen = TWENTY.substring(0, 16);
        ZipGuard x = opened(new Archive().add("a", 8, packed, 16, 0).add("b", 8, packed, 17, 0), 2);
        x.limits(16, 0);
        takeDue(x, 0, 20, sixteen);
        x.open();
        takeDue(x, 1, 21, sixteen);
        x.open();
        x.limits(16, 1);
        takeDue(x, 1, 22, sixteen);
        x.open();
        takeDue(x, 0, 20, sixteen);
        x.limits(40000, 0);
        takeDue(x, 0, 20, sixteen);
    }

    private static void bytesAsTheyAre() {
        StringBuilder all = new StringBuilder();
        for (int b = 0; b < 256; b++) {
            all.append((char) b);
        }
        ZipGuard x = opened(new Archive().store("a", "").store("b", "x").store("c", all.toString()), 3);
        takeDue(x, 0, 0, "");
        takeDue(x, 1, 0, "x");
        takeDue(x, 2, 0, all.toString());
    }

    // ---- 23 to 25

    private static void lessThanSize() {
        Archive archive = new Archive();
        long[] sizes = {3, 4, 0x103, 0x10003, 0x80000003L, 0xffffffffL};
        for (int i = 0; i < sizes.length; i++) {
            archive.add("a" + i, 8, fixed("abc"), sizes[i], sumOf("abc"));
        }
        archive.add("empty", 8, fixed(""), 1, 0);
        ZipGuard x = opened(archive, sizes.length + 1);
        for (int i = 0; i < sizes.length; i++) {
            takeDue(x, i, sizes[i] == 3 ? 0 : 23, "abc");
        }
        takeDue(x, sizes.length, 23, "");
    }

    /** Nine bits a letter: the last block may end anywhere in its last byte. */
    private static void leftOver() {
        for (int letters = 0; letters < 9; letters++) {
            String text = "\u00f0".repeat(letters);
            byte[] packed = fixed(text);
            ZipGuard x = opened(new Archive().packed("a", packed, Archive.bytesOf(text))
                    .packed("b", Arrays.copyOf(packed, packed.length + 1), Archive.bytesOf(text))
                    .packed("c", Arrays.copyOf(packed, packed.length + 300), Archive.bytesOf(text)), 3);
            takeDue(x, 0, 0, text);
            takeDue(x, 1, 24, text);
            takeDue(x, 2, 24, text);
        }
        // The bits that fill the last byte are not looked at.
        byte[] ones = fixed("abc");
        int free = 8 - (3 + 3 * 8 + 7) % 8;
        ones[ones.length - 1] |= (byte) (0xff << 8 - free);
        takeDue(opened(new Archive().packed("a", ones, Archive.bytesOf("abc")), 1), 0, 0, "abc");
        byte[] stored = {1, 2, 0, -3, -1, 'x', 'y'};
        ZipGuard y = opened(new Archive().packed("a", stored, Archive.bytesOf("xy"))
                .packed("b", Arrays.copyOf(stored, 8), Archive.bytesOf("xy")), 2);
        takeDue(y, 0, 0, "xy");
        takeDue(y, 1, 24, "xy");
    }

    private static void anotherSum() {
        Archive archive = new Archive().store("right", "abc");
        for (int bit = 0; bit < 32; bit++) {
            archive.add("stored" + bit, 0, Archive.bytesOf("abc"), 3, sumOf("abc") ^ 1 << bit);
        }
        for (int bit = 1; bit < 32; bit += 10) {
            archive.add("packed" + bit, 8, fixed("abc"), 3, sumOf("abc") ^ 1 << bit);
        }
        archive.add("empty", 0, new byte[0], 0, 1);
        ZipGuard x = opened(archive, 1 + 32 + 4 + 1);
        takeDue(x, 0, 0, "abc");
        for (int i = 1; i < 37; i++) {
            takeDue(x, i, 25, "abc");
        }
        takeDue(x, 37, 25, "");
    }

    private static void publicSum() {
        ZipGuard x = opened(new Archive().add("a", 0, Archive.bytesOf("123456789"), 9, 0xcbf43926)
                .add("b", 0, new byte[0], 0, 0).add("c", 0, new byte[1], 1, 0xd202ef8d)
                .add("d", 0, new byte[] {-1}, 1, 0xff000000).add("e", 0, new byte[] {-1, -1, -1, -1}, 4, -1), 5);
        takeDue(x, 0, 0, "123456789");
        takeDue(x, 1, 0, "");
        takeDue(x, 2, 0, "\0");
        takeDue(x, 3, 0, "\u00ff");
        takeDue(x, 4, 0, "\u00ff\u00ff\u00ff\u00ff");
        // Of each byte, alone and behind another one, as the library reckons it.
        for (int b = 0; b < 256; b += 64) {
            Archive archive = new Archive();
            for (int k = 0; k < 64; k++) {
                archive.store("f" + k, new byte[] {(byte) (b + k), (byte) (3 * k)});
            }
            Checks.due("takeAll()", opened(archive, 64).takeAll(), 64);
        }
    }

    private static void orderOf23To25() {
        byte[] more = Arrays.copyOf(fixed("abc"), fixed("abc").length + 1);
        ZipGuard x = opened(new Archive().add("a", 8, more, 4, 0).add("b", 8, more, 3, 0)
                .add("c", 8, fixed("abc"), 4, 0).add("d", 8, fixed("abc"), 3, 0), 4);
        takeDue(x, 0, 23, "abc");
        takeDue(x, 1, 24, "abc");
        takeDue(x, 2, 23, "abc");
        takeDue(x, 3, 25, "abc");
    }

    /** A part may be empty, and may have all bytes; taken out whole it is no part any more. */
    private static void refusalLeavesAPart() {
        Archive archive = new Archive().store("a", "abc").add("b", 8, new byte[0], 0, 0);
        byte[] tape = archive.bytes();
        ZipGuard x = Archive.load(tape);
        x.open();
        takeDue(x, 1, 30, "");
        x.limits(0, 0);
        takeDue(x, 0, 22, "");
        x.limits(2, 0);
        takeDue(x, 0, 22, "ab");
        x.limits(40000, 0);
        x.alter(archive.packedPlace(0), 'x');
        takeDue(x, 0, 25, "xbc");
        x.alter(archive.packedPlace(0), 'a');
        takeDue(x, 0, 0, "abc");
        x.alter(archive.packedPlace(0), 'y');
        takeDue(x, 0, 25, "ybc");
    }

    // ---- limits, take, takeAll

    private static void limitsDue(ZipGuard x, int budget, int ratio) {
        Checks.due("about(3)", x.about(3), budget);
        Checks.due("about(4)", x.about(4), ratio);
    }

    private static void fromNowOn() {
        ZipGuard x = opened(new Archive().store("a", TWENTY).store("b", TWENTY), 2);
        takeDue(x, 0, 0, TWENTY);
        x.limits(0, 0);
        limitsDue(x, 0, 0);
        stateDue(x, 0, 1, TWENTY);
        Checks.due("about(2)", x.about(2), 20);
        takeDue(x, 1, 22, "");
        x.open();
        limitsDue(x, 0, 0);
        takeDue(x, 0, 22, "");
        x.end(x.about(0));
        x.feed(0, 0, 0, 0, 0);
        limitsDue(x, 0, 0);
        x.limits(40000, 2000);
        limitsDue(x, 40000, 2000);
    }

    private static void wrongBudget() {
        ZipGuard x = new ZipGuard();
        for (int budget : new int[] {-1, 40001, MIN, MAX}) {
            Checks.dueThrow("limits(" + budget + ", 1)", IllegalArgumentException.class, () -> x.limits(budget, 1));
            limitsDue(x, 20000, 100);
        }
        for (int budget : new int[] {0, 1, 39999, 40000}) {
            x.limits(budget, 1);
            limitsDue(x, budget, 1);
        }
    }

    private static void wrongRatio() {
        ZipGuard x = new ZipGuard();
        for (int ratio : new int[] {-1, 2001, MIN, MAX}) {
            Checks.dueThrow("limits(1, " + ratio + ")", IllegalArgumentException.class, () -> x.limits(1, ratio));
            limitsDue(x, 20000, 100);
        }
        for (int ratio : new int[] {0, 1, 1999, 2000}) {
            x.limits(1, ratio);
            limitsDue(x, 1, ratio);
        }
    }

    /** 40000 bytes of one packed entry, and not one more. */
    private static void largestLimits() {
        BitWriter bits = new BitWriter().head(true, 1).fixed(0);
        for (int k = 0; k < 156; k++) {
            bits.fixed(285).code(0, 5);
        }
        byte[] packed = bits.fixed(256).bytes();
        ZipGuard x = opened(new Archive().packed("a", packed, new byte[1 + 156 * 258]).store("b", "x"), 2);
        x.limits(40000, 2000);
        Checks.due("take(0)", x.take(0), 22);
        Checks.due("entry(0, 6)", x.entry(0, 6), 40000);
        Checks.due("the last one", x.written(0, 39999), 0);
        Checks.due("behind the last one", x.written(0, 40000), -1);
        Checks.due("about(2)", x.about(2), 40000);
        takeDue(x, 1, 22, "");
        takeDue(x, 0, 22, "");
        Checks.due("about(2)", x.about(2), 40000);
    }

    private static void zeroOrWhy() {
        ZipGuard x = opened(new Archive().store("a", "abc").add("b", 0, Archive.bytesOf("abc"), 3, 1), 2);
        for (int k = 0; k < 2; k++) {
            takeDue(x, 0, 0, "abc");
            takeDue(x, 1, 25, "abc");
        }
    }

    /** A folder's sum is not looked at, nor are the limits. */
    private static void folder() {
        ZipGuard x = opened(new Archive().folder("a/").add("b/", 0, new byte[0], 0, 77).store("c", "abc"), 3);
        x.limits(0, 0);
        stateDue(x, 0, 0, "");
        for (int k = 0; k < 2; k++) {
            takeDue(x, 0, 0, "");
            takeDue(x, 1, 0, "");
        }
        Checks.due("about(2)", x.about(2), 0);
        x.limits(3, 0);
        takeDue(x, 2, 0, "abc");
        takeDue(x, 0, 0, "");
        Checks.due("about(2)", x.about(2), 3);
    }

    private static void takeNoneOpen() {
        for (int entry : new int[] {0, -1, 1, 64, MIN, MAX}) {
            ZipGuard x = new ZipGuard();
            Checks.dueThrow("take of a new one", IllegalStateException.class, () -> x.take(entry));
            x.open();
            Checks.dueThrow("take behind a fault", IllegalStateException.class, () -> x.take(entry));
            Archive.feedAll(x, new Archive().store("a", "b").bytes());
            Checks.dueThrow("take before open()", IllegalStateException.class, () -> x.take(entry));
            x.open();
            x.end(x.about(0));
            Checks.dueThrow("take behind end()", IllegalStateException.class, () -> x.take(entry));
            x.open();
            x.feed(0, 0, 0, 0, 0);
            Checks.dueThrow("take behind feed()", IllegalStateException.class, () -> x.take(entry));
        }
    }

    private static void takeNoEntry() {
        ZipGuard x = opened(new Archive().store("a", "b").store("c", "d"), 2);
        ZipGuard none = opened(new Archive(), 0);
        for (int entry : new int[] {-1, 2, 63, 64, 65, MIN, MAX}) {
            Checks.dueThrow("take(" + entry + ")", IndexOutOfBoundsException.class, () -> x.take(entry));
            Checks.dueThrow("take(" + entry + ")", IndexOutOfBoundsException.class, () -> none.take(entry));
        }
        Checks.dueThrow("take(0) of none", IndexOutOfBoundsException.class, () -> none.take(0));
        Checks.due("take(0)", x.take(0), 0);
        Checks.due("take(1)", x.take(1), 0);
    }

    private static void allInOrder() {
        ZipGuard x = opened(new Archive().store("a", "1234").folder("d/").store("b", "5678").store("c", "90"), 4);
        Checks.due("takeAll()", x.takeAll(), 4);
        stateDue(x, 0, 1, "1234");
        stateDue(x, 1, 1, "");
        stateDue(x, 2, 1, "5678");
        stateDue(x, 3, 1, "90");
        Checks.due("about(2)", x.about(2), 10);
        Checks.due("takeAll() anew", x.takeAll(), 4);
        Checks.due("about(2)", x.about(2), 20);
    }

    private static void untilOneIsRefused() {
        for (int bad = 0; bad < 3; bad++) {
            Archive archive = new Archive();
            for (int i = 0; i < 3; i++) {
                archive.add("f" + i, 0, Archive.bytesOf("abc"), 3, i == bad ? 0 : sumOf("abc"));
            }
            ZipGuard x = opened(archive, 3);
            Checks.due("takeAll() with a bad one at " + bad, x.takeAll(), bad);
            for (int i = 0; i < 3; i++) {
                stateDue(x, i, i < bad ? 1 : i == bad ? 2 : 0, i <= bad ? "abc" : "");
            }
        }
        // What was taken out behind the refused one stays.
        ZipGuard x = opened(new Archive().store("a", TWENTY).store("b", "xyz"), 2);
        takeDue(x, 1, 0, "xyz");
        x.limits(10, 100);
        Checks.due("takeAll()", x.takeAll(), 0);
        stateDue(x, 0, 2, TWENTY.substring(0, 7));
        stateDue(x, 1, 1, "xyz");
        ZipGuard folders = opened(new Archive().folder("a/").folder("b/").store("c", "x"), 3);
        folders.limits(0, 0);
        Checks.due("takeAll() of folders and a file", folders.takeAll(), 2);
    }

    private static void allOfNone() {
        ZipGuard x = opened(new Archive(), 0);
        Checks.due("takeAll()", x.takeAll(), 0);
        Checks.due("about(2)", x.about(2), 0);
        Archive most = new Archive();
        for (int i = 0; i < 64; i++) {
            most.store("f" + i, "x");
        }
        Checks.due("takeAll() of 64", opened(most, 64).takeAll(), 64);
    }

    private static void takeAllNoneOpen() {
        ZipGuard x = new ZipGuard();
        Checks.dueThrow("takeAll() of a new one", IllegalStateException.class, x::takeAll);
        x.open();
        Checks.dueThrow("takeAll() behind a fault", IllegalStateException.class, x::takeAll);
        Archive.feedAll(x, new Archive().store("a", "b").bytes());
        Checks.dueThrow("takeAll() before open()", IllegalStateException.class, x::takeAll);
        x.open();
        x.end(x.about(0));
        Checks.dueThrow("takeAll() behind end()", IllegalStateException.class, x::takeAll);
        x.open();
        x.feed(0, 0, 0, 0, 0);
        Checks.dueThrow("takeAll() behind feed()", IllegalStateException.class, x::takeAll);
    }
}
