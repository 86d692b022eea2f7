/** Promises 1 to 4 and the tape: a test of its own for each sentence that names a boundary case. */
public final class TapeEdgeTest {
    private static final int MIN = Integer.MIN_VALUE;
    private static final int MAX = Integer.MAX_VALUE;

    public static void main(String[] args) {
        Checks.holds("An object is used for at most 512 calls after it has been made",
                TapeEdgeTest::the512thCall);
        Checks.holds("THE TAPE has at most 20000 bytes", TapeEdgeTest::fullTape);
        Checks.holds("numbers of two and four bytes have the lowest byte first", TapeEdgeTest::lowestFirst);
        Checks.holds("numbers of two bytes .., without a sign", TapeEdgeTest::twoBytesWithoutSign);
        Checks.holds("numbers of .. four bytes .., without a sign", TapeEdgeTest::fourBytesWithoutSign);
        Checks.holds("ZipGuard(): An empty tape", TapeEdgeTest::emptyTape);
        Checks.holds("ZipGuard(): none open", TapeEdgeTest::noneOpen);
        Checks.holds("ZipGuard(): budget 20000, ratio 100", TapeEdgeTest::firstLimits);
        Checks.holds("feed: Twenty bytes come behind the tape, the highest of each number first",
                TapeEdgeTest::feedAddsTwenty);
        Checks.holds("feed: how many it has", TapeEdgeTest::feedAnswersLength);
        Checks.holds("feed: IllegalStateException: there would be more than 20000", TapeEdgeTest::feedTooMuch);
        Checks.holds("end: The tape keeps its first n bytes", TapeEdgeTest::endKeeps);
        Checks.holds("end: IllegalArgumentException: it has not so many", TapeEdgeTest::endTooLarge);
        Checks.holds("end: IllegalArgumentException: .. n is below 0", TapeEdgeTest::endBelowZero);
        Checks.holds("alter: Byte i of the tape becomes b (its lowest eight bits)", TapeEdgeTest::alterTakesEightBits);
        Checks.holds("alter: what it was", TapeEdgeTest::alterAnswersWithoutSign);
        Checks.holds("alter: IndexOutOfBoundsException: there is no such place", TapeEdgeTest::alterNowhere);
        Checks.holds("An archive that is open stays as it was opened", TapeEdgeTest::staysAsOpened);
        Checks.holds("but for its packed bytes", TapeEdgeTest::packedBytesChange);
        Checks.holds("An archive without a fault is OPEN; .. nor behind feed() and end()", TapeEdgeTest::shutBehind);
        Checks.holds("A call that throws changes nothing: a new object", TapeEdgeTest::throwsOnNew);
        Checks.holds("A call that throws changes nothing: with a fault", TapeEdgeTest::throwsWithFault);
        Checks.holds("A call that throws changes nothing: while open", TapeEdgeTest::throwsWhileOpen);
        Checks.holds("A call that throws changes nothing: feed with a full tape", TapeEdgeTest::throwsWhenFull);
        Checks.finish("TapeEdgeTest");
    }

    /** 508 calls of feed, then end, open, take and written. */
    private static void the512thCall() {
        byte[] content = new byte[508 * 20 - 100];
        content[content.length - 1] = 77;
        byte[] tape = new Archive().store("a", content).bytes();
        Checks.due("the tape's length", tape.length, 508 * 20);
        ZipGuard x = Archive.load(tape);
        Checks.due("open()", x.open(), 1);
        Checks.due("take(0)", x.take(0), 0);
        Checks.due("written of the last", x.written(0, content.length - 1), 77);
    }

    private static void fullTape() {
        byte[] content = new byte[20000 - 100];
        content[content.length - 1] = 99;
        ZipGuard x = Archive.load(new Archive().store("a", content).bytes());
        Checks.due("about(0)", x.about(0), 20000);
        Checks.due("open()", x.open(), 1);
        Checks.due("take(0)", x.take(0), 0);
        Checks.due("written of the last", x.written(0, content.length - 1), 99);
        Checks.due("alter(19999, 1)", x.alter(19999, 1), 0);
        Checks.due("open()", x.open(), -1);
        Checks.due("place()", x.place(), 20000);
    }

    private static void openDue(String what, byte[] tape, int answer, int place) {
        ZipGuard x = Archive.load(tape);
        Checks.due(what + ": open()", x.open(), answer);
        Checks.due(what + ": place()", x.place(), place);
    }

    private static void lowestFirst() {
        byte[] two = new Archive().endComment(new byte[258]).bytes();
        Checks.due("lowest byte", two[20], 2);
        Checks.due("highest byte", two[21], 1);
        openDue("258", two, 0, -1);
        Archive.patch(two, 20, 1, 2);
        openDue("258, turned", two, -1, 280);
        byte[] four = new Archive().gap(0x0102).bytes();
        int e = 0x0102;
        openDue("0x0102", four, 0, -1);
        Archive.patch(four, e + 16, 0, 0, 1, 2);
        openDue("0x0102, turned", four, -3, e + 12);
    }

    private static void twoBytesWithoutSign() {
        Archive archive = new Archive().store("a", "b");
        byte[] good = archive.bytes();
        int c = archive.entryPlace(0);
        int e = archive.endPlace();
        int[][] cases = {{e + 20, -1, good.length}, {c + 6, -6, c + 6}, {c + 28, -5, c}, {c + 30, -5, c},
            {c + 32, -5, c}, {archive.localPlace(0) + 28, -9, c + 42}};
        for (int[] at : cases) {
            for (int number : new int[] {0x8000, 0xffff}) {
                byte[] tape = good.clone();
                Archive.patchTwo(tape, at[0], number);
                openDue(number + " at " + at[0], tape, at[1], at[2]);
            }
        }
        byte[] many = good.clone();
        Archive.patch(many, e + 8, 0xff, 0xff, 0xff, 0xff);
        openDue("65535 entries", many, -4, e + 10);
    }

    private static void fourBytesWithoutSign() {
        byte[] packed = new BitWriter().head(true, 1).fixedText("abc").fixed(256).bytes();
        Archive archive = new Archive().add("a", 8, packed, 3, 0);
        byte[] good = archive.bytes();
        int c = archive.entryPlace(0);
        int e = archive.endPlace();
        for (long number : new long[] {0x80000000L, 0xffffffffL}) {
            byte[] span = good.clone();
            Archive.patchFour(span, e + 12, e - number);
            Archive.patchFour(span, e + 16, number);
            openDue("first place " + number, span, -3, e + 12);
            byte[] local = good.clone();
            Archive.patchFour(local, c + 42, number);
            openDue("local place " + number, local, -9, c + 42);
            byte[] large = good.clone();
            Archive.patchFour(large, c + 20, number);
            Archive.patchFour(large, archive.localPlace(0) + 18, number);
            openDue("packed size " + number, large, -9, c + 42);
            ZipGuard x = Archive.load(new Archive().add("a", 8, packed, number, 0).bytes());
            Checks.due("size " + number + ": open()", x.open(), 1);
            Checks.due("size " + number + ": take(0)", x.take(0), 23);
            Checks.due("size " + number + ": entry(0, 6)", x.entry(0, 6), 3);
        }
    }

    private static void emptyTape() {
        ZipGuard x = new ZipGuard();
        Checks.due("about(0)", x.about(0), 0);
        Checks.dueThrow("alter(0, 0)", IndexOutOfBoundsException.class, () -> x.alter(0, 0));
        x.end(0);
        Checks.due("about(0)", x.about(0), 0);
        Checks.due("open()", x.open(), -1);
        Checks.due("place()", x.place(), 0);
    }

    private static void noneOpen() {
        ZipGuard x = new ZipGuard();
        Checks.due("about(1)", x.about(1), 0);
        Checks.due("about(2)", x.about(2), 0);
        Checks.due("place()", x.place(), -1);
        Checks.dueThrow("take(0)", IllegalStateException.class, () -> x.take(0));
        Checks.dueThrow("takeAll()", IllegalStateException.class, x::takeAll);
        Checks.dueThrow("entry(0, 0)", IllegalStateException.class, () -> x.entry(0, 0));
        Checks.dueThrow("name(0, 0)", IllegalStateException.class, () -> x.name(0, 0));
        Checks.dueThrow("written(0, 0)", IllegalStateException.class, () -> x.written(0, 0));
    }

    private static void firstLimits() {
        ZipGuard x = new ZipGuard();
        Checks.due("about(3)", x.about(3), 20000);
        Checks.due("about(4)", x.about(4), 100);
        // 107 packed bytes may become 10716, and both entries together 20000.
        BitWriter bits = new BitWriter().head(true, 1).fixed('a');
        byte[] content = new byte[1 + 258 * 42];
        java.util.Arrays.fill(content, (byte) 'a');
        for (int k = 0; k < 42; k++) {
            bits.fixed(285).code(0, 5);
        }
        byte[] packed = java.util.Arrays.copyOf(bits.fixed(256).bytes(), 107);
        ZipGuard y = Archive.load(new Archive().packed("a", packed, content).store("b", content).bytes());
        Checks.due("open()", y.open(), 2);
        Checks.due("take(0)", y.take(0), 21);
        Checks.due("entry(0, 6)", y.entry(0, 6), 100 * 107 + 16);
        Checks.due("take(1)", y.take(1), 22);
        Checks.due("about(2)", y.about(2), 20000);
    }

    private static void feedAddsTwenty() {
        ZipGuard x = new ZipGuard();
        x.feed(MIN, MAX, -1, 0, 0x01020304);
        String due = "\u0080\0\0\0\u007f\u00ff\u00ff\u00ff\u00ff\u00ff\u00ff\u00ff\0\0\0\0\1\2\3\4";
        Checks.due("the tape", Snapshot.tapeOf(x), due);
        x.end(1);
        x.feed(0x10203040, 0x50607080, 0, MIN, 1);
        Checks.due("the tape", Snapshot.tapeOf(x), "\u0080\u0010 0@P`p\u0080\0\0\0\0\u0080\0\0\0\0\0\0\1");
    }

    private static void feedAnswersLength() {
        ZipGuard x = new ZipGuard();
        Checks.due("the first feed", x.feed(0, 0, 0, 0, 0), 20);
        Checks.due("the second feed", x.feed(0, 0, 0, 0, 0), 40);
        x.end(39);
        Checks.due("feed behind 39", x.feed(0, 0, 0, 0, 0), 59);
        x.end(0);
        Checks.due("feed behind 0", x.feed(0, 0, 0, 0, 0), 20);
    }

    private static void feedTooMuch() {
        for (int n : new int[] {20000, 19999, 19981}) {
            ZipGuard x = Archive.load(new byte[n]);
            Checks.dueThrow("feed behind " + n, IllegalStateException.class, () -> x.feed(1, 2, 3, 4, 5));
            Checks.due("about(0)", x.about(0), n);
        }
        ZipGuard x = Archive.load(new byte[19980]);
        Checks.due("feed behind 19980", x.feed(1, 2, 3, 4, 5), 20000);
        Checks.due("the last byte", x.alter(19999, 0), 5);
        Checks.dueThrow("one feed more", IllegalStateException.class, () -> x.feed(1, 2, 3, 4, 5));
        x.end(0);
        Checks.due("feed behind end(0)", x.feed(1, 2, 3, 4, 5), 20);
    }

    private static void endKeeps() {
        for (int n : new int[] {0, 1, 19, 20}) {
            ZipGuard x = Archive.load(Archive.bytesOf("abcdefghijklmnopqrst"));
            x.end(n);
            Checks.due("about(0) behind end(" + n + ")", x.about(0), n);
            Checks.due("the tape", Snapshot.tapeOf(x), "abcdefghijklmnopqrst".substring(0, n));
            Checks.dueThrow("alter(" + n + ", 0)", IndexOutOfBoundsException.class, () -> x.alter(n, 0));
        }
        // What was cut off is no part of an archive any more.
        byte[] tape = new Archive().store("a", "b").bytes();
        ZipGuard x = Archive.load(tape);
        x.end(tape.length - 1);
        Checks.due("open()", x.open(), -1);
        Checks.due("place()", x.place(), tape.length - 1);
    }

    private static void endTooLarge() {
        ZipGuard x = new ZipGuard();
        Checks.dueThrow("end(1) of none", IllegalArgumentException.class, () -> x.end(1));
        x.feed(0, 0, 0, 0, 0);
        Checks.dueThrow("end(21) of 20", IllegalArgumentException.class, () -> x.end(21));
        x.end(20);
        x.end(7);
        Checks.dueThrow("end(8) of 7", IllegalArgumentException.class, () -> x.end(8));
        Checks.dueThrow("end(20001)", IllegalArgumentException.class, () -> x.end(20001));
        Checks.dueThrow("end(MAX)", IllegalArgumentException.class, () -> x.end(MAX));
        Checks.due("about(0)", x.about(0), 7);
    }

    private static void endBelowZero() {
        ZipGuard x = Archive.load(new byte[5]);
        Checks.dueThrow("end(-1)", IllegalArgumentException.class, () -> x.end(-1));
        Checks.dueThrow("end(MIN)", IllegalArgumentException.class, () -> x.end(MIN));
        Checks.due("about(0)", x.about(0), 5);
    }

    private static void alterTakesEightBits() {
        ZipGuard x = Archive.load(new byte[3]);
        for (int b : new int[] {0, 1, 127, 128, 255, 256, 257, 0x7fffff80, -1, -128, -129, MIN, MAX}) {
            for (int i = 0; i < 3; i++) {
                x.alter(i, b);
                Checks.due("byte " + i + " behind alter(" + b + ")", x.alter(i, 0), b & 255);
            }
        }
        x.alter(1, 'x');
        Checks.due("the tape", Snapshot.tapeOf(x), "\0x\0");
    }

    private static void alterAnswersWithoutSign() {
        ZipGuard x = new ZipGuard();
        x.feed(-1, 0x80817f00, 0, 0, 0);
        Checks.due("255", x.alter(0, 0), 255);
        Checks.due("255 is gone", x.alter(0, 0), 0);
        Checks.due("128", x.alter(4, 0), 128);
        Checks.due("129", x.alter(5, 0), 129);
        Checks.due("127", x.alter(6, 0), 127);
    }

    private static void alterNowhere() {
        ZipGuard x = Archive.load(new byte[20]);
        for (int i : new int[] {-1, 20, 21, 19999, 20000, MAX, MIN}) {
            Checks.dueThrow("alter(" + i + ", 1)", IndexOutOfBoundsException.class, () -> x.alter(i, 1));
        }
        Checks.due("alter(19, 1)", x.alter(19, 1), 0);
        x.end(19);
        Checks.dueThrow("alter(19, 1)", IndexOutOfBoundsException.class, () -> x.alter(19, 1));
        x.end(0);
        Checks.dueThrow("alter(0, 1)", IndexOutOfBoundsException.class, () -> x.alter(0, 1));
    }

    private static Archive twoEntries() {
        return new Archive().store("ab", "hello").with("xx", "y", "z").folder("d/").store("d/e", "wide");
    }

    private static boolean isPacked(Archive archive, int i) {
        return i >= archive.packedPlace(0) && i < archive.packedPlace(0) + 5
                || i >= archive.packedPlace(2) && i < archive.packedPlace(2) + 4;
    }

    /** Each byte that is not packed is altered while it is open; one by one, and all together. */
    private static void staysAsOpened() {
        Archive archive = twoEntries();
        byte[] tape = archive.bytes();
        ZipGuard all = Archive.load(tape);
        all.open();
        for (int i = 0; i < tape.length; i++) {
            if (!isPacked(archive, i)) {
                ZipGuard one = Archive.load(tape);
                one.open();
                one.alter(i, ~tape[i]);
                all.alter(i, ~tape[i]);
                openedDue("byte " + i, one);
            }
        }
        openedDue("all bytes", all);
        Checks.due("open() of what was altered", all.open(), -1);
    }

    private static void openedDue(String what, ZipGuard x) {
        Checks.due(what + ": about(1)", x.about(1), 3);
        Checks.due(what + ": takeAll()", x.takeAll(), 3);
        Checks.due(what + ": names", Snapshot.nameOf(x, 0) + Snapshot.nameOf(x, 1) + Snapshot.nameOf(x, 2), "abd/d/e");
        Checks.due(what + ": written", Snapshot.writtenOf(x, 0) + Snapshot.writtenOf(x, 2), "hellowide");
    }

    private static void packedBytesChange() {
        Archive archive = twoEntries();
        ZipGuard x = Archive.load(archive.bytes());
        x.open();
        x.takeAll();
        for (int k : new int[] {0, 4}) {
            int before = x.alter(archive.packedPlace(0) + k, 'X');
            Checks.due("what is written stays", Snapshot.writtenOf(x, 0), "hello");
            Checks.due("take(0)", x.take(0), 25);
            Checks.due("the byte is written anew", x.written(0, k), 'X');
            x.alter(archive.packedPlace(0) + k, before);
            Checks.due("take(0)", x.take(0), 0);
        }
        x.alter(archive.packedPlace(2) + 3, 'X');
        Checks.due("takeAll()", x.takeAll(), 2);
        Checks.due("the other one's", Snapshot.writtenOf(x, 2), "widX");
    }

    private static void shutBehind() {
        ZipGuard fed = Archive.load(twoEntries().bytes());
        Checks.due("open()", fed.open(), 3);
        fed.feed(0, 0, 0, 0, 0);
        Checks.due("open behind feed()", Snapshot.isOpen(fed) ? 1 : 0, 0);
        Checks.due("about(1) behind feed()", fed.about(1), 0);
        fed.end(fed.about(0) - 20);
        Checks.due("open behind feed() and end()", Snapshot.isOpen(fed) ? 1 : 0, 0);
        Checks.due("open()", fed.open(), 3);
        fed.end(fed.about(0));
        Checks.due("open behind end() that cuts nothing", Snapshot.isOpen(fed) ? 1 : 0, 0);
        Checks.due("about(1) behind end()", fed.about(1), 0);
        Checks.due("open()", fed.open(), 3);
        fed.alter(0, 80);
        Checks.due("open behind alter()", Snapshot.isOpen(fed) ? 1 : 0, 1);
    }

    private static void nothingChanges(String call, ZipGuard x, Class<? extends RuntimeException> due,
            Checks.Call run) {
        String before = Snapshot.of(x);
        Checks.dueThrow(call, due, run);
        Checks.due("behind " + call, Snapshot.of(x), before);
    }

    private static void wrongArguments(ZipGuard x) {
        int n = x.about(0);
        nothingChanges("end(n + 1)", x, IllegalArgumentException.class, () -> x.end(n + 1));
        nothingChanges("end(-1)", x, IllegalArgumentException.class, () -> x.end(-1));
        nothingChanges("alter(n, 1)", x, IndexOutOfBoundsException.class, () -> x.alter(n, 1));
        nothingChanges("alter(-1, 1)", x, IndexOutOfBoundsException.class, () -> x.alter(-1, 1));
        nothingChanges("limits(-1, 7)", x, IllegalArgumentException.class, () -> x.limits(-1, 7));
        nothingChanges("limits(40001, 7)", x, IllegalArgumentException.class, () -> x.limits(40001, 7));
        nothingChanges("limits(7, -1)", x, IllegalArgumentException.class, () -> x.limits(7, -1));
        nothingChanges("limits(7, 2001)", x, IllegalArgumentException.class, () -> x.limits(7, 2001));
        nothingChanges("about(5)", x, IllegalArgumentException.class, () -> x.about(5));
    }

    private static void callsThatWantAnOpenOne(ZipGuard x) {
        nothingChanges("take(0)", x, IllegalStateException.class, () -> x.take(0));
        nothingChanges("takeAll()", x, IllegalStateException.class, x::takeAll);
        nothingChanges("entry(0, 0)", x, IllegalStateException.class, () -> x.entry(0, 0));
        nothingChanges("name(0, 0)", x, IllegalStateException.class, () -> x.name(0, 0));
        nothingChanges("written(0, 0)", x, IllegalStateException.class, () -> x.written(0, 0));
    }

    private static void throwsOnNew() {
        ZipGuard x = new ZipGuard();
        wrongArguments(x);
        callsThatWantAnOpenOne(x);
    }

    private static void throwsWithFault() {
        byte[] tape = new Archive().store("a", "b").bytes();
        tape[0] = 0;
        ZipGuard x = Archive.load(tape);
        Checks.due("open()", x.open(), -9);
        wrongArguments(x);
        callsThatWantAnOpenOne(x);
    }

    /** One entry is whole, one a part, one not taken out. */
    private static void throwsWhileOpen() {
        ZipGuard x = Archive.load(new Archive().store("a", "whole").add("b", 0, Archive.bytesOf("part"), 4, 1)
                .store("c", "none").bytes());
        x.open();
        x.limits(30, 3);
        x.takeAll();
        wrongArguments(x);
        for (int entry : new int[] {-1, 3, 64, MIN, MAX}) {
            nothingChanges("take", x, IndexOutOfBoundsException.class, () -> x.take(entry));
            nothingChanges("entry", x, IndexOutOfBoundsException.class, () -> x.entry(entry, 0));
            nothingChanges("name", x, IndexOutOfBoundsException.class, () -> x.name(entry, 0));
            nothingChanges("written", x, IndexOutOfBoundsException.class, () -> x.written(entry, 0));
        }
        nothingChanges("entry(0, 8)", x, IllegalArgumentException.class, () -> x.entry(0, 8));
        nothingChanges("entry(0, -1)", x, IllegalArgumentException.class, () -> x.entry(0, -1));
        Checks.due("it can still be taken out", x.take(2), 0);
    }

    private static void throwsWhenFull() {
        ZipGuard x = Archive.load(new Archive().store("a", new byte[20000 - 100]).bytes());
        x.open();
        x.take(0);
        nothingChanges("feed", x, IllegalStateException.class, () -> x.feed(-1, -1, -1, -1, -1));
        Checks.due("place()", x.place(), -1);
        Checks.due("open", Snapshot.isOpen(x) ? 1 : 0, 1);
    }
}
