import java.nio.charset.StandardCharsets;
import java.util.Arrays;

/** Promises 5 and 6, opening: a test of its own for each sentence that names a boundary case. */
public final class OpenEdgeTest {
    public static void main(String[] args) {
        theEnd();
        faults2To5();
        fault6();
        faults7And8();
        faults9To11();
        openAndPlace();
        Checks.finish("OpenEdgeTest");
    }

    private static void theEnd() {
        Checks.holds("THE END is the last place e", OpenEdgeTest::lastPlace);
        Checks.holds("at which the bytes 80, 75, 5, 6 stand", OpenEdgeTest::markOfTheEnd);
        Checks.holds("and e + 22 + the number of two bytes at e + 20 is the tape's length",
                OpenEdgeTest::reachOfTheEnd);
        Checks.holds("The ENTRIES lie in a row from the place told at e + 16 (four bytes) on", OpenEdgeTest::inARow);
        Checks.holds("The first FAULT, with its place", OpenEdgeTest::firstFault);
        Checks.holds("1 there is no end (the tape's length)", OpenEdgeTest::noEnd);
    }

    private static void faults2To5() {
        Checks.holds("2 the four bytes at e + 4 are not all 0 (there)", OpenEdgeTest::notAllZero);
        Checks.holds("2 .. the two numbers of two bytes at e + 8 and e + 10 differ (at e + 8)",
                OpenEdgeTest::countsDiffer);
        Checks.holds("3 what is told at e + 12 (four bytes) and at e + 16 are not e together (at e + 12)",
                OpenEdgeTest::notTogether);
        Checks.holds("4 there are more than 64 (at e + 10)", OpenEdgeTest::moreThan64);
        Checks.holds("5 less than 46 bytes lie there before e", OpenEdgeTest::lessThan46);
        Checks.holds("5 .. it does not begin with 80, 75, 1, 2", OpenEdgeTest::markOfAnEntry);
        Checks.holds("5 .. name, extra and comment .. go beyond e (at c)", OpenEdgeTest::beyondTheEnd);
        Checks.holds("Of each entry, at c, in turn", OpenEdgeTest::inTurn);
    }

    private static void fault6() {
        Checks.holds("6 the number of two bytes at c + 6 is above 20 (there)", OpenEdgeTest::above20);
        Checks.holds("6 .. at c + 8 it has others than the bits 1, 2 and 11 (there)", OpenEdgeTest::otherBits);
        Checks.holds("6 .. at c + 10, the METHOD, it is neither 0 nor 8 (there)", OpenEdgeTest::otherMethod);
        Checks.holds("6 .. at c + 34 it is not 0 (there)", OpenEdgeTest::notZeroAt34);
        Checks.holds("6 .. the PACKED size .. and the SIZE .. differ with method 0 (at c + 20)",
                OpenEdgeTest::sizesDiffer);
        Checks.holds("6 .. or are not both 0 for a folder (at c + 20)", OpenEdgeTest::folderWithBytes);
        Checks.holds("6 .. or a folder has the method 8 (at c + 20)", OpenEdgeTest::packedFolder);
        Checks.holds("A FOLDER is a name whose last byte is '/'", OpenEdgeTest::whatAFolderIs);
    }

    private static void faults7And8() {
        Checks.holds("7 .. it has 1 to 60 bytes (at c + 46)", OpenEdgeTest::lengthOfNames);
        Checks.holds("7 .. bytes from 32 to 126", OpenEdgeTest::bytesOfNames);
        Checks.holds("7 .. none of them one of \\ : * ? \" < > |", OpenEdgeTest::wrongBytesOfNames);
        Checks.holds("7 .. parts between '/'; of these at most 8", OpenEdgeTest::atMost8Parts);
        Checks.holds("7 .. none is empty", OpenEdgeTest::emptyParts);
        Checks.holds("7 .. none is .. '.' or '..'", OpenEdgeTest::dotParts);
        Checks.holds("7 .. but for an empty one at the end, behind which nothing comes: .. that one counts as no part",
                OpenEdgeTest::emptyPartAtTheEnd);
        Checks.holds("8 an entry before it has the same name (at c + 46)", OpenEdgeTest::sameName);
        Checks.holds("8 .. the same name (but for a '/' at the end)", OpenEdgeTest::sameNameButForSlash);
        Checks.holds("8 .. one of both is no folder and the other one lies in it (at c + 46)",
                OpenEdgeTest::liesInAFile);
        Checks.holds("8: what lies in a folder is no fault", OpenEdgeTest::liesInAFolder);
    }

    private static void faults9To11() {
        Checks.holds("9 at the place told at c + 42 (four bytes) there is no LOCAL entry", OpenEdgeTest::placeOfLocal);
        Checks.holds("9 .. 80, 75, 3, 4", OpenEdgeTest::markOfLocal);
        Checks.holds("9 .. then the same bytes as from c + 6 on: 2, 2, 2, .. 4 (the sum), 4, 4, 2",
                OpenEdgeTest::sameBytes);
        Checks.holds("9 .. four that are not looked at", OpenEdgeTest::notLookedAt);
        Checks.holds("9 .. two for how long its own extra is", OpenEdgeTest::ownExtra);
        Checks.holds("9 .. the same name", OpenEdgeTest::sameNameInLocal);
        Checks.holds("9 .. all of it before the first entry's place (at c + 42)", OpenEdgeTest::beforeTheFirst);
        Checks.holds("10 it lies over that of an entry before (at c + 42)", OpenEdgeTest::liesOver);
        Checks.holds("10: what only touches does not lie over it", OpenEdgeTest::touches);
        Checks.holds("Behind the last one 11 it is not e (there)", OpenEdgeTest::notTheEnd);
    }

    private static void openAndPlace() {
        Checks.holds("An archive without a fault is OPEN; with one none is", OpenEdgeTest::openWithoutFault);
        Checks.holds("open: what was open is no more, nothing is written", OpenEdgeTest::openedAnew);
        Checks.holds("open: how many entries, or the fault, below 0", OpenEdgeTest::howMany);
        Checks.holds("place: Of the latest open() its fault's place", OpenEdgeTest::placeOfTheLatest);
        Checks.holds("place: NONE without one or before any", OpenEdgeTest::placeNone);
    }

    private static ZipGuard openDue(String what, byte[] tape, int answer, int place) {
        ZipGuard x = Archive.load(tape);
        Checks.due(what + ": open()", x.open(), answer);
        Checks.due(what + ": place()", x.place(), place);
        Checks.due(what + ": about(1)", x.about(1), answer < 0 ? 0 : answer);
        Checks.due(what + ": is open", Snapshot.isOpen(x) ? 1 : 0, answer < 0 ? 0 : 1);
        return x;
    }

    private static byte[] empty() {
        return new Archive().bytes();
    }

    private static byte[] join(byte[]... parts) {
        java.io.ByteArrayOutputStream out = new java.io.ByteArrayOutputStream();
        for (byte[] part : parts) {
            out.writeBytes(part);
        }
        return out.toByteArray();
    }

    // ---- the end, fault 1

    /** The comment is an end itself, with or without right numbers: only the latter is passed over. */
    private static void lastPlace() {
        byte[] outer = new Archive().store("a", "b").endComment(empty()).bytes();
        int e = outer.length - 22;
        openDue("the last one's numbers count", outer, -3, e + 12);
        Archive.patchFour(outer, e + 16, e);
        openDue("the last one is right", outer, 0, -1);
        Archive.patchTwo(outer, e + 20, 1);
        openDue("the last one does not reach the length", outer, 1, -1);
        Archive.patchTwo(outer, e + 20, 0xffff);
        openDue("the last one goes beyond the length", outer, 1, -1);
        openDue("an end before an end", join(empty(), empty()), -3, 22 + 12);
    }

    private static void markOfTheEnd() {
        for (int i = 0; i < 4; i++) {
            for (int change : new int[] {-1, 1}) {
                byte[] tape = empty();
                tape[i] += (byte) change;
                openDue("byte " + i + " of the mark", tape, -1, 22);
            }
        }
        // A mark so near to the tape's end that its numbers are not there.
        for (int n = 4; n < 22; n++) {
            byte[] tape = new Archive().endComment(Arrays.copyOf(empty(), n)).bytes();
            openDue("a mark " + n + " bytes before the length", tape, 0, -1);
        }
    }

    private static void reachOfTheEnd() {
        for (int n : new int[] {0, 1, 2, 255, 256, 19978}) {
            byte[] tape = new Archive().endComment(new byte[n]).bytes();
            openDue("a comment of " + n, tape, 0, -1);
            Archive.patchTwo(tape, 20, n + 1);
            openDue("told one more than " + n, tape, -1, n + 22);
            if (n > 0) {
                Archive.patchTwo(tape, 20, n - 1);
                openDue("told one less than " + n, tape, -1, n + 22);
            }
        }
    }

    private static void noEnd() {
        for (int n : new int[] {0, 1, 3, 4, 20, 21, 22, 23, 20000}) {
            openDue("zeros: " + n, new byte[n], -1, n);
        }
        for (int n = 0; n < 22; n++) {
            openDue("the first of an end: " + n, Arrays.copyOf(empty(), n), -1, n);
        }
        openDue("an end and a byte behind", Arrays.copyOf(empty(), 23), -1, 23);
    }

    private static void inARow() {
        openDue("no entry, at 0", empty(), 0, -1);
        openDue("no entry, behind other bytes", new Archive().gap(7).bytes(), 0, -1);
        Archive three = new Archive().store("a", "").with("", "x", "").store("b", "").with("", "", "yy").store("c", "");
        openDue("three with other bytes between local entries and them", three.gap(5).bytes(), 3, -1);
        byte[] tape = three.bytes();
        int e = three.endPlace();
        int second = three.entryPlace(1);
        Archive.patchTwo(tape, e + 8, 2);
        Archive.patchTwo(tape, e + 10, 2);
        Archive.patchFour(tape, e + 12, e - second);
        Archive.patchFour(tape, e + 16, second);
        openDue("from the second on", tape, 2, -1);
    }

    /** All faults at once: each is mended as it is told, and the next one comes. */
    private static void firstFault() {
        byte[] inside = Arrays.copyOf(new Archive().store("b", "yz").bytes(), 33);
        Archive archive = new Archive().store("a", inside).store("b", "yz").store("c", "");
        byte[] good = archive.bytes();
        int c = archive.entryPlace(1);
        int e = archive.endPlace();
        int local = archive.packedPlace(0);
        byte[] tape = good.clone();
        Archive.patchFour(tape, c + 42, local);
        int[][] faults = {
            {e + 20, 1, 0, 1, good.length}, {e + 4, 1, 0, 2, e + 4}, {e + 8, 9, 65, 2, e + 8},
            {e + 12, 1, good[e + 12], 3, e + 12}, {e + 10, 65, 2, 4, e + 10}, {c, 0, 80, 5, c},
            {c + 6, 21, 20, 6, c + 6}, {c + 8, 1, 0, 6, c + 8}, {c + 10, 1, 0, 6, c + 10}, {c + 34, 1, 0, 6, c + 34},
            {c + 20, 1, 2, 6, c + 20}, {c + 46, ':', 'a', 7, c + 46}, {c + 46, 'a', 'b', 8, c + 46},
            {local, 0, 80, 9, c + 42}, {c + 42, local, archive.localPlace(1), 10, c + 42},
            {e + 10, 2, 3, 11, archive.entryPlace(2)}
        };
        for (int[] fault : faults) {
            if (fault[3] != 8 && fault[3] != 11) {
                tape[fault[0]] = (byte) fault[1];
            }
        }
        for (int[] fault : faults) {
            openDue("fault " + fault[3], tape, -fault[3], fault[4]);
            tape[fault[0]] = (byte) fault[2];
            if (fault[3] == 4 || fault[3] == 11) {
                tape[e + 8] = (byte) fault[2];
            }
        }
        openDue("no fault", tape, 3, -1);
    }

    // ---- faults 2 to 5

    private static void notAllZero() {
        Archive archive = new Archive().store("a", "b");
        byte[] good = archive.bytes();
        int e = archive.endPlace();
        for (int i = 4; i < 8; i++) {
            for (int b : new int[] {1, 127, 128, 255}) {
                byte[] tape = good.clone();
                Archive.patch(tape, e + i, b);
                openDue(b + " at e + " + i, tape, -2, e + 4);
            }
        }
        byte[] both = good.clone();
        Archive.patch(both, e + 7, 1, 5);
        openDue("both of 2: the first one's place", both, -2, e + 4);
    }

    private static void countsDiffer() {
        Archive archive = new Archive().store("a", "b");
        byte[] good = archive.bytes();
        int e = archive.endPlace();
        int[][] counts = {{0, 1}, {1, 0}, {1, 2}, {2, 1}, {1, 257}, {257, 1}, {0, 0x8000}, {0xffff, 0}};
        for (int[] count : counts) {
            byte[] tape = good.clone();
            Archive.patchTwo(tape, e + 8, count[0]);
            Archive.patchTwo(tape, e + 10, count[1]);
            openDue(count[0] + " and " + count[1], tape, -2, e + 8);
        }
        openDue("both 1", good, 1, -1);
        openDue("both 0", empty(), 0, -1);
    }

    private static void notTogether() {
        Archive archive = new Archive().store("a", "b");
        byte[] good = archive.bytes();
        int e = archive.endPlace();
        long c = archive.entryPlace(0);
        long[][] spans = {
            {e - c + 1, c}, {e - c - 1, c}, {e - c, c + 1}, {e - c, c - 1}, {0, 0}, {e, e}, {0, e - 1}, {0, e + 1},
            {e + 1, 0xffffffffL}, {0xffffffffL, e + 1}, {0x80000000L, 0x80000000L + e}, {e - c + 0x100, c},
            {e - c + 0x10000, c}, {e - c + 0x1000000, c}
        };
        for (long[] span : spans) {
            byte[] tape = good.clone();
            Archive.patchFour(tape, e + 12, span[0]);
            Archive.patchFour(tape, e + 16, span[1]);
            openDue(span[0] + " and " + span[1], tape, -3, e + 12);
        }
        byte[] other = good.clone();
        Archive.patchFour(other, e + 12, e - c - 1);
        Archive.patchFour(other, e + 16, c + 1);
        openDue("together e, but no entry there", other, -5, (int) c + 1);
        Archive.patchFour(other, e + 12, 0);
        Archive.patchFour(other, e + 16, e);
        openDue("all of it at e + 16", other, -5, e);
        Archive.patchFour(other, e + 12, e);
        Archive.patchFour(other, e + 16, 0);
        openDue("all of it at e + 12", other, -5, 0);
    }

    private static Archive files(int n) {
        Archive archive = new Archive();
        for (int i = 0; i < n; i++) {
            archive.store("file" + i, "" + i);
        }
        return archive;
    }

    private static void moreThan64() {
        ZipGuard x = openDue("64", files(64).bytes(), 64, -1);
        Checks.due("name of the last", Snapshot.nameOf(x, 63), "file63");
        Checks.due("takeAll()", x.takeAll(), 64);
        Checks.due("written of the last", Snapshot.writtenOf(x, 63), "63");
        openDue("63", files(63).bytes(), 63, -1);
        Archive archive = files(65);
        byte[] tape = archive.bytes();
        openDue("65", tape, -4, archive.endPlace() + 10);
        for (int told : new int[] {65, 128, 256, 256 + 64, 0x8000, 0xffff}) {
            byte[] many = empty();
            Archive.patchTwo(many, 8, told);
            Archive.patchTwo(many, 10, told);
            openDue("told " + told, many, -4, 10);
        }
    }

    private static void lessThan46() {
        Archive archive = new Archive().store("a", "b");
        byte[] good = archive.bytes();
        int e = archive.endPlace();
        for (int n : new int[] {45, 5, 4, 1, 0}) {
            byte[] tape = good.clone();
            Archive.patchFour(tape, e + 12, n);
            Archive.patchFour(tape, e + 16, e - n);
            if (n >= 4) {
                Archive.patch(tape, e - n, 80, 75, 1, 2);
            }
            openDue(n + " bytes", tape, -5, e - n);
        }
        // 46 bytes are enough: what is wrong then is that the name has none.
        byte[] nameless = new Archive().store("", "").bytes();
        openDue("46 bytes", nameless, -7, 30 + 46);
        byte[] more = good.clone();
        Archive.patch(more, e + 8, 2, 0, 2, 0);
        openDue("one entry more than there are", more, -5, e);
    }

    private static void markOfAnEntry() {
        Archive archive = new Archive().store("a", "b").store("c", "d");
        byte[] good = archive.bytes();
        for (int entry = 0; entry < 2; entry++) {
            int c = archive.entryPlace(entry);
            for (int i = 0; i < 4; i++) {
                for (int change : new int[] {-1, 1}) {
                    byte[] tape = good.clone();
                    tape[c + i] += (byte) change;
                    openDue("byte " + i + " of entry " + entry, tape, -5, c);
                }
            }
        }
    }

    private static void beyondTheEnd() {
        Archive archive = new Archive().store("ab", "").with("", "extra", "comment");
        byte[] good = archive.bytes();
        int c = archive.entryPlace(0);
        openDue("they reach e", good, 1, -1);
        for (int at : new int[] {28, 30, 32}) {
            for (int more : new int[] {1, 0x100, 0x8000, 0xff00}) {
                byte[] tape = good.clone();
                Archive.patchTwo(tape, c + at, tape[c + at] + more);
                openDue(more + " more at c + " + at, tape, -5, c);
            }
        }
        byte[] less = good.clone();
        less[c + 32]--;
        openDue("one less than e", less, -11, archive.endPlace() - 1);
        // None of the three is too long, but all together are.
        byte[] tape = good.clone();
        Archive.patchTwo(tape, c + 28, 5);
        Archive.patchTwo(tape, c + 30, 5);
        Archive.patchTwo(tape, c + 32, 5);
        openDue("too long together", tape, -5, c);
    }

    /** The second entry's early fault comes behind the first one's late fault. */
    private static void inTurn() {
        Archive archive = new Archive().store("a", "b").store("c", "d");
        byte[] tape = archive.bytes();
        int first = archive.entryPlace(0);
        int second = archive.entryPlace(1);
        tape[archive.localPlace(0)] = 0;
        tape[second] = 0;
        openDue("9 of the first", tape, -9, first + 42);
        tape[archive.localPlace(0)] = 80;
        openDue("5 of the second", tape, -5, second);
    }

    // ---- fault 6

    /** The number is told in the local entry too, so that only its own fault is left. */
    private static void numberDue(int at, int number, boolean isRight) {
        Archive archive = new Archive().store("a", "b").store("c", "d");
        for (int entry = 0; entry < 2; entry++) {
            byte[] tape = archive.bytes();
            int c = archive.entryPlace(entry);
            Archive.patchTwo(tape, c + at, number);
            if (at < 34) {
                Archive.patchTwo(tape, archive.localPlace(entry) + at - 2, number);
            }
            openDue(number + " at c + " + at + " of " + entry, tape, isRight ? 2 : -6, isRight ? -1 : c + at);
        }
    }

    private static void above20() {
        for (int number : new int[] {0, 1, 10, 19, 20}) {
            numberDue(6, number, true);
        }
        for (int number : new int[] {21, 22, 45, 255, 256, 256 + 20, 0x7fff, 0x8000, 0xffff}) {
            numberDue(6, number, false);
        }
    }

    private static void otherBits() {
        int known = 1 << 1 | 1 << 2 | 1 << 11;
        for (int bit = 0; bit < 16; bit++) {
            boolean isKnown = bit == 1 || bit == 2 || bit == 11;
            numberDue(8, 1 << bit, isKnown);
            numberDue(8, known | 1 << bit, isKnown);
        }
        numberDue(8, 0, true);
        numberDue(8, known, true);
        numberDue(8, 0xffff, false);
    }

    private static void otherMethod() {
        numberDue(10, 0, true);
        numberDue(10, 8, true);
        for (int number : new int[] {1, 2, 4, 7, 9, 12, 16, 255, 256, 256 + 8, 0x800, 0x8000, 0x8008, 0xffff}) {
            numberDue(10, number, false);
        }
    }

    private static void notZeroAt34() {
        numberDue(34, 0, true);
        for (int number : new int[] {1, 128, 255, 256, 0x8000, 0xffff}) {
            numberDue(34, number, false);
        }
    }

    private static void sizeDue(String name, int method, long packed, long size, int answer, int at) {
        Archive archive = new Archive().add(name, method, new byte[2], 2, 0);
        byte[] tape = archive.bytes();
        int c = archive.entryPlace(0);
        Archive.patchFour(tape, c + 20, packed);
        Archive.patchFour(tape, c + 24, size);
        Archive.patchFour(tape, archive.localPlace(0) + 18, packed);
        Archive.patchFour(tape, archive.localPlace(0) + 22, size);
        openDue(name + ", method " + method + ", " + packed + ", " + size, tape, answer, answer < 0 ? c + at : -1);
    }

    private static void sizesDiffer() {
        sizeDue("a", 0, 2, 2, 1, 0);
        sizeDue("a", 0, 0, 0, 1, 0);
        long[][] differ = {{2, 3}, {2, 1}, {1, 2}, {3, 2}, {2, 0}, {0, 2}, {2, 0x102}, {2, 0x10002}, {2, 0x1000002},
            {2, 0x80000002L}, {2, 0xffffffffL}, {0xffffffffL, 2}};
        for (long[] sizes : differ) {
            sizeDue("a", 0, sizes[0], sizes[1], -6, 20);
        }
        sizeDue("a", 8, 2, 3, 1, 0);
        sizeDue("a", 8, 2, 0, 1, 0);
        sizeDue("a", 8, 0, 0xffffffffL, 1, 0);
        sizeDue("a", 0, 0xffffffffL, 0xffffffffL, -9, 42);
        sizeDue("a", 0, 3, 3, -9, 42);
    }

    private static void folderWithBytes() {
        sizeDue("a/", 0, 0, 0, 1, 0);
        sizeDue("a/", 0, 1, 1, -6, 20);
        sizeDue("a/", 0, 2, 2, -6, 20);
        sizeDue("a/", 0, 0x80000000L, 0x80000000L, -6, 20);
        sizeDue("a/", 0, 0, 1, -6, 20);
        sizeDue("a/", 0, 1, 0, -6, 20);
        sizeDue("a/", 8, 2, 0, -6, 20);
        sizeDue("a/", 8, 0, 2, -6, 20);
    }

    private static void packedFolder() {
        sizeDue("a/", 8, 0, 0, -6, 20);
        sizeDue("a/b/", 8, 0, 0, -6, 20);
        sizeDue("a/b", 8, 0, 0, 1, 0);
    }

    /** Also one that is no good name: its sizes are looked at before its name. */
    private static void whatAFolderIs() {
        for (String name : new String[] {"a/", "a/b/", "/", "//", "../", "a:/", "x".repeat(60) + "/"}) {
            sizeDue(name, 0, 1, 1, -6, 20);
        }
        for (String name : new String[] {"a", "a/b", "/a"}) {
            sizeDue(name, 0, 1, 1, name.equals("/a") ? -7 : 1, 46);
        }
        sizeDue("", 0, 1, 1, -7, 46);
        // Without a name the byte before it is the place's, which is no '/' of a name.
        Archive nameless = new Archive().add("", 0, new byte[1], 1, 0);
        byte[] tape = nameless.bytes();
        Archive.patchFour(tape, nameless.entryPlace(0) + 42, '/' << 24);
        openDue("no name behind a '/'", tape, -7, nameless.entryPlace(0) + 46);
        ZipGuard x = openDue("both", new Archive().folder("a/").store("a/b", "").bytes(), 2, -1);
        Checks.due("entry(0, 4)", x.entry(0, 4), 1);
        Checks.due("entry(1, 4)", x.entry(1, 4), 0);
    }

    // ---- faults 7 and 8

    /** Behind another entry, so that c + 46 is not the first one's. */
    private static void nameDue(String name, boolean isName) {
        Archive archive = new Archive().store("0", "").store(name, "");
        byte[] tape = archive.bytes();
        ZipGuard x = openDue("name " + name, tape, isName ? 2 : -7, isName ? -1 : archive.entryPlace(1) + 46);
        if (isName) {
            Checks.due("the name", Snapshot.nameOf(x, 1), name);
        }
    }

    private static void lengthOfNames() {
        nameDue("", false);
        nameDue("a", true);
        nameDue("x".repeat(59), true);
        nameDue("x".repeat(60), true);
        nameDue("x".repeat(61), false);
        nameDue("x".repeat(59) + "/", true);
        nameDue("x".repeat(60) + "/", false);
        nameDue("x".repeat(256), false);
        nameDue("x".repeat(256 + 60), false);
    }

    private static void bytesOfNames() {
        String wrong = "\\:*?\"<>|/";
        for (int b = 0; b < 256; b++) {
            char c = (char) b;
            boolean isRight = b >= 32 && b <= 126 && wrong.indexOf(c) < 0;
            if (b != '.' && b != '/' && b != '0') {
                nameDue("" + c, isRight);
                nameDue("a" + c, isRight);
                nameDue(c + "a", isRight);
                nameDue("a" + c + "/", isRight);
            }
        }
    }

    private static void wrongBytesOfNames() {
        for (char c : "\\:*?\"<>|".toCharArray()) {
            nameDue("" + c, false);
            nameDue(c + "ab", false);
            nameDue("a" + c + "b", false);
            nameDue("ab" + c, false);
            nameDue("d/" + c + "/f", false);
            nameDue("d" + c + "/", false);
        }
    }

    private static void atMost8Parts() {
        nameDue("1/2/3/4/5/6/7", true);
        nameDue("1/2/3/4/5/6/7/8", true);
        nameDue("1/2/3/4/5/6/7/8/9", false);
        nameDue("1/2/3/4/5/6/7/8/9/a", false);
        nameDue("1/2/3/4/5/6/7/8/", true);
        nameDue("1/2/3/4/5/6/7/8/9/", false);
    }

    private static void emptyParts() {
        String[] names = {"/", "//", "///", "/a", "/a/", "//a", "a//b", "a//", "a/b//", "a///", "a/b//c"};
        for (String name : names) {
            nameDue(name, false);
        }
    }

    private static void dotParts() {
        for (String dots : new String[] {".", ".."}) {
            for (String name : new String[] {"", "/", "/a", "/a/"}) {
                nameDue(dots + name, false);
                nameDue("b/" + dots + name, false);
                nameDue("b/c/" + dots + name, false);
            }
        }
        for (String part : new String[] {"...", "....", ".a", "a.", "..a", "a..", ". ", " .", ".. ", ".-.", "a.b"}) {
            nameDue(part, true);
            nameDue(part + "/", true);
            nameDue("b/" + part, true);
            nameDue(part + "/c", true);
        }
    }

    private static void emptyPartAtTheEnd() {
        nameDue("a/", true);
        nameDue("a/b/", true);
        nameDue("a/b/c/d/e/f/g/h/", true);
        nameDue("a//", false);
        nameDue("/", false);
        ZipGuard x = openDue("folder", new Archive().folder("a/b/").bytes(), 1, -1);
        Checks.due("it is a folder", x.entry(0, 4), 1);
        Checks.due("its name keeps the '/'", Snapshot.nameOf(x, 0), "a/b/");
    }

    /** In both orders, right behind one another and with others before and between. */
    private static void clashDue(String one, String other, boolean isClash) {
        String[][] orders = {{one, other}, {other, one}, {"=", one, "_", other}, {"=", other, "_", one}};
        for (String[] names : orders) {
            Archive archive = new Archive();
            for (String name : names) {
                archive.store(name, "");
            }
            byte[] tape = archive.bytes();
            openDue(String.join(" and ", names), tape, isClash ? -8 : names.length,
                    isClash ? archive.entryPlace(names.length - 1) + 46 : -1);
        }
    }

    private static void sameName() {
        clashDue("a", "a", true);
        clashDue("a/b", "a/b", true);
        clashDue("a/", "a/", true);
        String sixty = "x".repeat(60);
        clashDue(sixty, sixty, true);
        clashDue(sixty, "x".repeat(59) + "y", false);
        clashDue("a", "A", false);
        clashDue("a", "b", false);
        clashDue("a", "a ", false);
        clashDue("a", "aa", false);
        Archive archive = files(63).store("file62", "");
        byte[] tape = archive.bytes();
        openDue("the 64th is the 63rd", tape, -8, archive.entryPlace(63) + 46);
    }

    private static void sameNameButForSlash() {
        clashDue("a", "a/", true);
        clashDue("a/b", "a/b/", true);
        clashDue("x".repeat(59), "x".repeat(59) + "/", true);
        clashDue("a", "b/", false);
        clashDue("ab", "a/", false);
    }

    private static void liesInAFile() {
        clashDue("a", "a/b", true);
        clashDue("a", "a/b/", true);
        clashDue("a", "a/b/c", true);
        clashDue("a/b", "a/b/c", true);
        clashDue("a/b", "a/b/c/d/", true);
        clashDue("1", "1/2/3/4/5/6/7/8", true);
        clashDue("a", "ab/c", false);
        clashDue("ab", "a/b", false);
        clashDue("b", "a/b", false);
        clashDue("a/b", "a/bc", false);
        clashDue("a/b", "a/bc/d", false);
        clashDue("a", "a.b/c", false);
        clashDue("a", "a0b", false);
    }

    private static void liesInAFolder() {
        clashDue("a/", "a/b", false);
        clashDue("a/", "a/b/", false);
        clashDue("a/b/", "a/b/c", false);
        clashDue("a/", "a/b/c/d", false);
        clashDue("a/b", "a/c", false);
    }

    // ---- faults 9 to 11

    private static Archive two() {
        return new Archive().store("ab", "hello").with("xyz", "", "").store("cd", "x");
    }

    private static void placeOfLocal() {
        Archive archive = two();
        byte[] good = archive.bytes();
        int c = archive.entryPlace(1);
        int local = archive.localPlace(1);
        int first = archive.entryPlace(0);
        long[] places = {local - 1, local + 1, 0, first - 30, first - 29, first, c, good.length - 4, good.length, 20000,
            local + 0x10000L, local + 0x1000000L, 0x7fffffffL, 0x80000000L, 0x80000000L + local, 0xffffffe2L,
            0xffffffffL};
        for (long place : places) {
            byte[] tape = good.clone();
            Archive.patchFour(tape, c + 42, place);
            openDue("local place " + place, tape, -9, c + 42);
        }
        openDue("the right place", good, 2, -1);
    }

    private static void markOfLocal() {
        Archive archive = two();
        byte[] good = archive.bytes();
        for (int entry = 0; entry < 2; entry++) {
            for (int i = 0; i < 4; i++) {
                for (int change : new int[] {-1, 1}) {
                    byte[] tape = good.clone();
                    tape[archive.localPlace(entry) + i] += (byte) change;
                    openDue("byte " + i + " of local entry " + entry, tape, -9, archive.entryPlace(entry) + 42);
                }
            }
        }
    }

    /** Each bit of what is told twice. */
    private static void sameBytes() {
        Archive archive = two();
        byte[] good = archive.bytes();
        for (int entry = 0; entry < 2; entry++) {
            for (int i = 4; i < 28; i++) {
                boolean isFree = i >= 10 && i < 14;
                for (int bit = 0; bit < 8 && !isFree; bit++) {
                    byte[] tape = good.clone();
                    tape[archive.localPlace(entry) + i] ^= (byte) (1 << bit);
                    openDue("bit " + bit + " of local byte " + i, tape, -9, archive.entryPlace(entry) + 42);
                }
            }
            for (int bit = 0; bit < 32; bit++) {
                byte[] tape = good.clone();
                tape[archive.entryPlace(entry) + 16 + bit / 8] ^= (byte) (1 << bit % 8);
                openDue("bit " + bit + " of the sum", tape, -9, archive.entryPlace(entry) + 42);
            }
        }
    }

    private static void notLookedAt() {
        Archive archive = two();
        byte[] good = archive.bytes();
        for (int i = 0; i < 4; i++) {
            byte[] tape = good.clone();
            tape[archive.localPlace(0) + 10 + i] ^= (byte) 0xff;
            tape[archive.entryPlace(1) + 12 + i] ^= (byte) 0xff;
            openDue("byte " + (10 + i), tape, 2, -1);
        }
        // Of an entry the bytes at c + 4, c + 36 and c + 38 are told nowhere else.
        for (int i : new int[] {4, 5, 36, 37, 38, 39, 40, 41}) {
            byte[] tape = good.clone();
            tape[archive.entryPlace(0) + i] ^= (byte) 0xff;
            openDue("byte at c + " + i, tape, 2, -1);
        }
    }

    /** The local extra may have another length than the entry's; what it has moves the packed bytes. */
    private static void ownExtra() {
        for (int n : new int[] {0, 1, 255, 256, 1000}) {
            byte[] tape = new Archive().store("a", "bc").with("x".repeat(n), "yz", "").bytes();
            ZipGuard x = openDue("extra of " + n, tape, 1, -1);
            Checks.due("take(0)", x.take(0), 0);
            Checks.due("written", Snapshot.writtenOf(x, 0), "bc");
        }
        Archive archive = new Archive().store("a", "bc").with("0123", "", "").gap(2);
        byte[] tape = archive.bytes();
        Archive.patchTwo(tape, archive.localPlace(0) + 28, 2);
        ZipGuard less = openDue("a shorter one", tape, 1, -1);
        less.take(0);
        Checks.due("written", Snapshot.writtenOf(less, 0), "23");
        Archive.patchTwo(tape, archive.localPlace(0) + 28, 6);
        ZipGuard more = openDue("a longer one", tape, 1, -1);
        more.take(0);
        Checks.due("written", Snapshot.writtenOf(more, 0), "\0\0");
    }

    private static void sameNameInLocal() {
        String name = "n".repeat(60);
        Archive archive = new Archive().store("0", "").store(name, "x");
        byte[] good = archive.bytes();
        for (int k : new int[] {0, 30, 59}) {
            byte[] tape = good.clone();
            tape[archive.localPlace(1) + 30 + k]++;
            openDue("byte " + k + " of the name", tape, -9, archive.entryPlace(1) + 42);
        }
        byte[] large = new Archive().store("a", "").bytes();
        large[30] = 'A';
        openDue("a large letter", large, -9, 31 + 42);
    }

    /** The first entry's place moves forward over what stands before it, byte by byte. */
    private static void beforeTheFirst() {
        for (int gap = 0; gap < 3; gap++) {
            Archive archive = new Archive().store("abc", "hello").with("", "", "").gap(gap);
            byte[] tape = archive.bytes();
            int c = archive.entryPlace(0);
            for (int extra = 0; extra < 4; extra++) {
                Archive.patchTwo(tape, archive.localPlace(0) + 28, extra);
                openDue("gap " + gap + ", extra " + extra, tape, extra <= gap ? 1 : -9, extra <= gap ? -1 : c + 42);
            }
        }
        localAmongTheEntries();
        headOrNameOverTheFirst();
    }

    /** A local entry that is right but stands behind the first entry's place, in its comment. */
    private static void localAmongTheEntries() {
        byte[] local = Arrays.copyOf(new Archive().store("a", "x").bytes(), 32);
        String comment = new String(local, StandardCharsets.ISO_8859_1);
        Archive archive = new Archive().store("a", "x").with("", "", comment);
        byte[] tape = archive.bytes();
        int c = archive.entryPlace(0);
        Archive.patchFour(tape, c + 42, c + 47L);
        openDue("a local entry in a comment", tape, -9, c + 42);
    }

    /** Only the first n bytes of a local entry without packed ones stand before the entries. */
    private static void headOrNameOverTheFirst() {
        for (int n = 0; n <= 33; n++) {
            Archive archive = new Archive().store("abc", "");
            byte[] whole = archive.bytes();
            int c = archive.entryPlace(0);
            byte[] tape = join(Arrays.copyOf(whole, n), Arrays.copyOfRange(whole, c, whole.length));
            int e = archive.endPlace() - c + n;
            Archive.patchFour(tape, e + 16, n);
            openDue(n + " of 33 bytes", tape, n == 33 ? 1 : -9, n == 33 ? -1 : n + 42);
        }
    }

    /** Two local entries that share some bytes; the second one is told first or second. */
    private static void liesOver() {
        byte[] inside = Arrays.copyOf(new Archive().store("b", "yz").bytes(), 33);
        for (int before : new int[] {0, 1, 7}) {
            byte[] content = join(new byte[before], inside, new byte[3]);
            Archive archive = new Archive().store("a", content).store("b", "yz");
            byte[] tape = archive.bytes();
            Archive.patchFour(tape, archive.entryPlace(1) + 42, archive.packedPlace(0) + before);
            openDue("inside, behind " + before, tape, -10, archive.entryPlace(1) + 42);
            Archive turned = new Archive().store("b", "yz").store("a", content);
            byte[] turnedTape = turned.bytes();
            Archive.patchFour(turnedTape, turned.entryPlace(0) + 42, turned.packedPlace(1) + before);
            openDue("around, before " + before, turnedTape, -10, turned.entryPlace(1) + 42);
        }
        byOneByte();
    }

    /** The first one's extra grows by one, so that its last packed byte is the next one's first. */
    private static void byOneByte() {
        for (int entry = 0; entry < 2; entry++) {
            Archive archive = new Archive().store("a", "12").store("b", "34").store("c", "56");
            byte[] tape = archive.bytes();
            openDue("side by side", tape, 3, -1);
            Archive.patchTwo(tape, archive.localPlace(entry) + 28, 1);
            openDue("one byte of " + entry + " over", tape, -10, archive.entryPlace(entry + 1) + 42);
        }
        // The entries are told from the last local one to the first one.
        Archive archive = new Archive().store("a", "12").store("b", "34");
        byte[] tape = turned(archive, 1);
        openDue("told the other way round", tape, -10, archive.entryPlace(1) + 42);
        openDue("the same without", turned(archive, 0), 2, -1);
        farApart();
    }

    /** With 64 entries the last one lies over the first one alone. */
    private static void farApart() {
        byte[] inside = Arrays.copyOf(new Archive().store("z", "").bytes(), 31);
        Archive archive = new Archive().store("a", inside);
        for (int i = 0; i < 62; i++) {
            archive.folder(i + "/");
        }
        archive.store("z", "");
        byte[] tape = archive.bytes();
        openDue("64 apart", tape, 64, -1);
        Archive.patchFour(tape, archive.entryPlace(63) + 42, archive.packedPlace(0));
        openDue("the last over the first", tape, -10, archive.entryPlace(63) + 42);
    }

    /** The local entry of "b" comes first; its extra is told, though none is there. */
    private static byte[] turned(Archive archive, int extra) {
        byte[] tape = archive.bytes();
        byte[] a = Arrays.copyOfRange(tape, 0, 33);
        byte[] b = Arrays.copyOfRange(tape, 33, 66);
        System.arraycopy(b, 0, tape, 0, 33);
        System.arraycopy(a, 0, tape, 33, 33);
        Archive.patchTwo(tape, 28, extra);
        Archive.patchFour(tape, archive.entryPlace(0) + 42, 33);
        Archive.patchFour(tape, archive.entryPlace(1) + 42, 0);
        return tape;
    }

    private static void touches() {
        openDue("stored side by side", two().bytes(), 2, -1);
        openDue("without packed bytes", new Archive().folder("a/").folder("b/").store("c", "").bytes(), 3, -1);
        openDue("the other way round", turned(new Archive().store("a", "12").store("b", "34"), 0), 2, -1);
    }

    private static void notTheEnd() {
        Archive archive = new Archive().store("a", "b").store("c", "d");
        byte[] tape = archive.bytes();
        int e = archive.endPlace();
        Archive.patch(tape, e + 8, 1, 0, 1, 0);
        openDue("one entry less than there are", tape, -11, archive.entryPlace(1));
        Archive.patch(tape, e + 8, 0, 0, 0, 0);
        openDue("none told", tape, -11, archive.entryPlace(0));
        byte[] one = new Archive().store("a", "b").with("", "", "x").bytes();
        int c = 32;
        Archive.patchTwo(one, c + 32, 0);
        openDue("one byte before e", one, -11, c + 47);
        byte[] none = new Archive().gap(1).bytes();
        openDue("no entry, at e", none, 0, -1);
        Archive.patchFour(none, 1 + 12, 1);
        Archive.patchFour(none, 1 + 16, 0);
        openDue("no entry, one before e", none, -11, 0);
    }

    // ---- open and place

    private static void openWithoutFault() {
        ZipGuard none = openDue("without entries", empty(), 0, -1);
        Checks.due("takeAll() of none", none.takeAll(), 0);
        ZipGuard x = Archive.load(two().bytes());
        Checks.due("open()", x.open(), 2);
        Checks.due("open", Snapshot.isOpen(x) ? 1 : 0, 1);
        x.alter(0, 0);
        Checks.due("open stays", Snapshot.isOpen(x) ? 1 : 0, 1);
        Checks.due("open() with a fault", x.open(), -9);
        Checks.due("none is open", Snapshot.isOpen(x) ? 1 : 0, 0);
        x.alter(0, 80);
        Checks.due("none is open before open()", Snapshot.isOpen(x) ? 1 : 0, 0);
        Checks.due("open() without it", x.open(), 2);
        Checks.due("open again", Snapshot.isOpen(x) ? 1 : 0, 1);
        // A fault behind good entries, too, leaves none of them open.
        x.alter(x.about(0) - 12, 1);
        x.alter(x.about(0) - 14, 1);
        Checks.due("open()", x.open(), -11);
        Checks.due("about(1)", x.about(1), 0);
        Checks.due("none is open", Snapshot.isOpen(x) ? 1 : 0, 0);
    }

    private static void openedAnew() {
        ZipGuard x = Archive.load(two().bytes());
        x.open();
        x.takeAll();
        Checks.due("about(2)", x.about(2), 6);
        Checks.due("open() of the same", x.open(), 2);
        Checks.due("about(2)", x.about(2), 0);
        for (int i = 0; i < 2; i++) {
            Checks.due("state", x.entry(i, 5), 0);
            Checks.due("how many are written", x.entry(i, 6), 0);
            Checks.due("written", x.written(i, 0), -1);
        }
        x.takeAll();
        x.end(x.about(0) - 1);
        Checks.due("open() with a fault", x.open(), -1);
        Checks.due("about(2)", x.about(2), 0);
        x.end(0);
        Archive.feedAll(x, new Archive().folder("d/").bytes());
        Checks.due("open() of another one", x.open(), 1);
        Checks.due("name", Snapshot.nameOf(x, 0), "d/");
        Checks.due("state", x.entry(0, 5), 0);
        Checks.dueThrow("entry(1, 0)", IndexOutOfBoundsException.class, () -> x.entry(1, 0));
    }

    private static void howMany() {
        for (int n : new int[] {0, 1, 2, 63, 64}) {
            openDue(n + " entries", files(n).bytes(), n, -1);
        }
        Checks.due("a fault is below 0", new ZipGuard().open(), -1);
    }

    private static void placeOfTheLatest() {
        ZipGuard x = new ZipGuard();
        x.open();
        Checks.due("of an empty tape", x.place(), 0);
        x.feed(0, 0, 0, 0, 0);
        Checks.due("feed() changes nothing", x.place(), 0);
        x.open();
        Checks.due("of 20 bytes", x.place(), 20);
        x.end(7);
        Checks.due("end() changes nothing", x.place(), 20);
        x.alter(0, 1);
        x.limits(1, 1);
        Checks.due("alter() and limits() change nothing", x.place(), 20);
        x.open();
        Checks.due("of 7 bytes", x.place(), 7);
    }

    private static void placeNone() {
        ZipGuard x = new ZipGuard();
        Checks.due("before any", x.place(), ZipGuard.NONE);
        Archive.feedAll(x, two().bytes());
        Checks.due("before any, with a tape", x.place(), ZipGuard.NONE);
        x.open();
        Checks.due("without a fault", x.place(), ZipGuard.NONE);
        x.alter(0, 0);
        x.open();
        Checks.due("with a fault", x.place() == ZipGuard.NONE ? 1 : 0, 0);
        x.alter(0, 80);
        x.open();
        Checks.due("without a fault again", x.place(), ZipGuard.NONE);
        x.takeAll();
        x.end(0);
        Checks.due("behind end()", x.place(), ZipGuard.NONE);
    }
}
