/** Promises 10 to 13, asking: a test of its own for each sentence that names a boundary case. */
public final class AskEdgeTest {
    private static final int MIN = Integer.MIN_VALUE;
    private static final int MAX = Integer.MAX_VALUE;
    private static final int[] NO_ENTRIES = {-1, 5, 6, 63, 64, 65, MIN, MAX};

    public static void main(String[] args) {
        entry();
        namesAndWritten();
        about();
        Checks.finish("AskEdgeTest");
    }

    private static void entry() {
        Checks.holds("entry: its method (what = 0)", AskEdgeTest::method);
        Checks.holds("entry: packed size (1), size (2)", AskEdgeTest::sizes);
        Checks.holds("entry: size .., sum (3; both as ints)", AskEdgeTest::asInts);
        Checks.holds("entry: whether it is a folder (4; 1 or 0)", AskEdgeTest::isFolder);
        Checks.holds("entry: its state (5: 0 not taken out, 1 whole, 2 a part)", AskEdgeTest::state);
        Checks.holds("entry: how many bytes of it are written (6)", AskEdgeTest::howManyWritten);
        Checks.holds("entry: how long its name is (7)", AskEdgeTest::lengthOfName);
        Checks.holds("entry: IllegalStateException: none is open", AskEdgeTest::entryNoneOpen);
        Checks.holds("entry: IndexOutOfBoundsException: there is no such entry", AskEdgeTest::entryNoEntry);
        Checks.holds("entry: IllegalArgumentException: what is none of these", AskEdgeTest::entryWrongWhat);
    }

    private static void namesAndWritten() {
        Checks.holds("name: Byte k of an entry's name", AskEdgeTest::bytesOfNames);
        Checks.holds("name: NONE when there is none", AskEdgeTest::noByteOfName);
        Checks.holds("name: IllegalStateException: none is open", AskEdgeTest::nameNoneOpen);
        Checks.holds("name: IndexOutOfBoundsException: there is no such entry", AskEdgeTest::nameNoEntry);
        Checks.holds("written: Byte k of what is written of an entry", AskEdgeTest::bytesWritten);
        Checks.holds("written: NONE when there is none", AskEdgeTest::noByteWritten);
        Checks.holds("written: IllegalStateException: none is open", AskEdgeTest::writtenNoneOpen);
        Checks.holds("written: IndexOutOfBoundsException: there is no such entry", AskEdgeTest::writtenNoEntry);
    }

    private static void about() {
        Checks.holds("about: Bytes of the tape (what = 0)", AskEdgeTest::bytesOfTape);
        Checks.holds("about: entries (1; 0 when none is open)", AskEdgeTest::entries);
        Checks.holds("about: bytes written since it was opened (2)", AskEdgeTest::writtenSinceOpened);
        Checks.holds("about: budget (3), ratio (4)", AskEdgeTest::limits);
        Checks.holds("about: IllegalArgumentException", AskEdgeTest::aboutWrongWhat);
    }

    /** A file, a folder, a packed file, one that is refused, and one with the longest name. */
    private static Archive five() {
        byte[] packed = new BitWriter().head(true, 1).fixedText("ab").fixed(256).bytes();
        return new Archive().store("a", "hello").folder("d/").packed("d/b", packed, Archive.bytesOf("ab"))
                .add("bad", 8, packed, 0xffffffffL, 0x80000000).store("n".repeat(59) + "~", "");
    }

    private static ZipGuard opened() {
        ZipGuard x = Archive.load(five().bytes());
        Checks.due("open()", x.open(), 5);
        return x;
    }

    private static void entryDue(ZipGuard x, int what, int... due) {
        for (int i = 0; i < due.length; i++) {
            Checks.due("entry(" + i + ", " + what + ")", x.entry(i, what), due[i]);
        }
    }

    private static void method() {
        entryDue(opened(), 0, 0, 0, 8, 8, 0);
    }

    private static void sizes() {
        ZipGuard x = opened();
        entryDue(x, 1, 5, 0, 4, 4, 0);
        entryDue(x, 2, 5, 0, 2, -1, 0);
        x.takeAll();
        entryDue(x, 1, 5, 0, 4, 4, 0);
        entryDue(x, 2, 5, 0, 2, -1, 0);
        byte[] content = new byte[20000 - 100];
        ZipGuard full = Archive.load(new Archive().store("a", content).bytes());
        full.open();
        entryDue(full, 1, content.length);
        entryDue(full, 2, content.length);
    }

    private static void asInts() {
        long[] sizes = {0, 1, 0x7fffffffL, 0x80000000L, 0x80000001L, 0xfffffffeL, 0xffffffffL};
        Archive archive = new Archive();
        for (int i = 0; i < sizes.length; i++) {
            archive.add("f" + i, 8, new byte[0], sizes[i], (int) sizes[sizes.length - 1 - i]);
        }
        ZipGuard x = Archive.load(archive.bytes());
        x.open();
        entryDue(x, 2, 0, 1, MAX, MIN, MIN + 1, -2, -1);
        entryDue(x, 3, -1, -2, MIN + 1, MIN, MAX, 1, 0);
    }

    private static void isFolder() {
        ZipGuard x = opened();
        entryDue(x, 4, 0, 1, 0, 0, 0);
        x.takeAll();
        entryDue(x, 4, 0, 1, 0, 0, 0);
    }

    private static void state() {
        ZipGuard x = opened();
        entryDue(x, 5, 0, 0, 0, 0, 0);
        x.take(4);
        entryDue(x, 5, 0, 0, 0, 0, 1);
        x.take(1);
        entryDue(x, 5, 0, 1, 0, 0, 1);
        x.takeAll();
        entryDue(x, 5, 1, 1, 1, 2, 1);
        x.limits(0, 0);
        x.take(0);
        entryDue(x, 5, 2, 1, 1, 2, 1);
        x.limits(40000, 100);
        x.take(0);
        entryDue(x, 5, 1, 1, 1, 2, 1);
        x.open();
        entryDue(x, 5, 0, 0, 0, 0, 0);
    }

    private static void howManyWritten() {
        ZipGuard x = opened();
        entryDue(x, 6, 0, 0, 0, 0, 0);
        x.takeAll();
        entryDue(x, 6, 5, 0, 2, 2, 0);
        x.takeAll();
        entryDue(x, 6, 5, 0, 2, 2, 0);
        x.limits(x.about(2) + 3, 100);
        x.take(0);
        entryDue(x, 6, 3, 0, 2, 2, 0);
        x.open();
        entryDue(x, 6, 0, 0, 0, 0, 0);
    }

    private static void lengthOfName() {
        entryDue(opened(), 7, 1, 2, 3, 3, 60);
    }

    /** A new object, one with a fault, one before open(), behind end() and behind feed(). */
    private static ZipGuard[] shutOnes() {
        ZipGuard fault = new ZipGuard();
        fault.open();
        ZipGuard ended = opened();
        ended.end(ended.about(0));
        ZipGuard fed = opened();
        fed.takeAll();
        fed.feed(0, 0, 0, 0, 0);
        return new ZipGuard[] {new ZipGuard(), fault, Archive.load(five().bytes()), ended, fed};
    }

    private static void entryNoneOpen() {
        for (ZipGuard x : shutOnes()) {
            for (int entry : new int[] {0, 4, -1, 5, MIN, MAX}) {
                Checks.dueThrow("entry(" + entry + ", 0)", IllegalStateException.class, () -> x.entry(entry, 0));
                Checks.dueThrow("entry(" + entry + ", 8)", IllegalStateException.class, () -> x.entry(entry, 8));
            }
        }
    }

    private static void entryNoEntry() {
        ZipGuard x = opened();
        for (int entry : NO_ENTRIES) {
            Checks.dueThrow("entry(" + entry + ", 0)", IndexOutOfBoundsException.class, () -> x.entry(entry, 0));
            Checks.dueThrow("entry(" + entry + ", 7)", IndexOutOfBoundsException.class, () -> x.entry(entry, 7));
        }
        ZipGuard none = Archive.load(new Archive().bytes());
        none.open();
        Checks.dueThrow("entry(0, 0) of none", IndexOutOfBoundsException.class, () -> none.entry(0, 0));
    }

    private static void entryWrongWhat() {
        ZipGuard x = opened();
        for (int what : new int[] {-1, 8, 9, 256, MIN, MAX}) {
            Checks.dueThrow("entry(0, " + what + ")", IllegalArgumentException.class, () -> x.entry(0, what));
            Checks.dueThrow("entry(4, " + what + ")", IllegalArgumentException.class, () -> x.entry(4, what));
            // The exceptions come in the order in which the document tells them.
            Checks.dueThrow("entry(5, " + what + ")", IndexOutOfBoundsException.class, () -> x.entry(5, what));
        }
    }

    private static void bytesOfNames() {
        ZipGuard x = opened();
        Checks.due("name(0, 0)", x.name(0, 0), 'a');
        Checks.due("name(1, 1)", x.name(1, 1), '/');
        Checks.due("name(2, 2)", x.name(2, 2), 'b');
        Checks.due("name(4, 0)", x.name(4, 0), 'n');
        Checks.due("name(4, 58)", x.name(4, 58), 'n');
        Checks.due("name(4, 59)", x.name(4, 59), '~');
        ZipGuard low = Archive.load(new Archive().store(" ", "").bytes());
        low.open();
        Checks.due("the lowest byte", low.name(0, 0), 32);
    }

    /** Behind a shorter name nothing is left of a longer one that stood there before. */
    private static void noByteOfName() {
        ZipGuard x = opened();
        int[] lengths = {1, 2, 3, 3, 60};
        for (int i = 0; i < lengths.length; i++) {
            for (int k : new int[] {-1, lengths[i], lengths[i] + 1, 60, 61, MIN, MAX}) {
                Checks.due("name(" + i + ", " + k + ")", x.name(i, k), ZipGuard.NONE);
            }
        }
        x.end(0);
        Archive.feedAll(x, new Archive().store("long name", "").bytes());
        x.open();
        x.end(0);
        Archive.feedAll(x, new Archive().store("b", "").bytes());
        x.open();
        Checks.due("name(0, 0)", x.name(0, 0), 'b');
        Checks.due("name(0, 1)", x.name(0, 1), ZipGuard.NONE);
    }

    private static void nameNoneOpen() {
        for (ZipGuard x : shutOnes()) {
            for (int entry : new int[] {0, 4, -1, 5, MIN, MAX}) {
                Checks.dueThrow("name(" + entry + ", 0)", IllegalStateException.class, () -> x.name(entry, 0));
                Checks.dueThrow("name(" + entry + ", -1)", IllegalStateException.class, () -> x.name(entry, -1));
            }
        }
    }

    private static void nameNoEntry() {
        ZipGuard x = opened();
        for (int entry : NO_ENTRIES) {
            Checks.dueThrow("name(" + entry + ", 0)", IndexOutOfBoundsException.class, () -> x.name(entry, 0));
            Checks.dueThrow("name(" + entry + ", -1)", IndexOutOfBoundsException.class, () -> x.name(entry, -1));
        }
    }

    private static void bytesWritten() {
        ZipGuard x = opened();
        x.takeAll();
        Checks.due("written(0, 0)", x.written(0, 0), 'h');
        Checks.due("written(0, 4)", x.written(0, 4), 'o');
        Checks.due("written(2, 1)", x.written(2, 1), 'b');
        Checks.due("of a part", x.written(3, 1), 'b');
        ZipGuard high = Archive.load(new Archive().store("a", "\u0000\u007f\u0080\u00ff").bytes());
        high.open();
        high.takeAll();
        int[] due = {0, 127, 128, 255};
        for (int k = 0; k < 4; k++) {
            Checks.due("without a sign", high.written(0, k), due[k]);
        }
    }

    private static void noByteWritten() {
        ZipGuard x = opened();
        for (int k : new int[] {0, 1, -1, MIN, MAX}) {
            Checks.due("not taken out, " + k, x.written(0, k), ZipGuard.NONE);
        }
        x.takeAll();
        int[] lengths = {5, 0, 2, 2, 0};
        for (int i = 0; i < lengths.length; i++) {
            for (int k : new int[] {-1, lengths[i], lengths[i] + 1, 39999, 40000, MIN, MAX}) {
                Checks.due("written(" + i + ", " + k + ")", x.written(i, k), ZipGuard.NONE);
            }
        }
        x.limits(x.about(2) + 1, 100);
        x.take(0);
        Checks.due("a part", x.written(0, 0), 'h');
        Checks.due("behind a part", x.written(0, 1), ZipGuard.NONE);
        x.open();
        Checks.due("opened anew", x.written(0, 0), ZipGuard.NONE);
    }

    private static void writtenNoneOpen() {
        for (ZipGuard x : shutOnes()) {
            for (int entry : new int[] {0, 4, -1, 5, MIN, MAX}) {
                Checks.dueThrow("written(" + entry + ", 0)", IllegalStateException.class, () -> x.written(entry, 0));
                Checks.dueThrow("written(" + entry + ", -1)", IllegalStateException.class, () -> x.written(entry, -1));
            }
        }
    }

    private static void writtenNoEntry() {
        ZipGuard x = opened();
        x.takeAll();
        for (int entry : NO_ENTRIES) {
            Checks.dueThrow("written(" + entry + ", 0)", IndexOutOfBoundsException.class, () -> x.written(entry, 0));
            Checks.dueThrow("written(" + entry + ", -1)", IndexOutOfBoundsException.class, () -> x.written(entry, -1));
        }
    }

    private static void bytesOfTape() {
        ZipGuard x = new ZipGuard();
        Checks.due("of a new one", x.about(0), 0);
        x.feed(0, 0, 0, 0, 0);
        Checks.due("behind feed()", x.about(0), 20);
        x.end(1);
        Checks.due("behind end(1)", x.about(0), 1);
        x.alter(0, 5);
        x.open();
        Checks.due("behind alter() and open()", x.about(0), 1);
        x.end(0);
        Checks.due("behind end(0)", x.about(0), 0);
        Checks.due("full", Archive.load(new byte[20000]).about(0), 20000);
    }

    private static void entries() {
        for (ZipGuard x : shutOnes()) {
            Checks.due("none open", x.about(1), 0);
        }
        Checks.due("five", opened().about(1), 5);
        ZipGuard none = Archive.load(new Archive().bytes());
        none.open();
        Checks.due("open without entries", none.about(1), 0);
        ZipGuard x = opened();
        x.alter(x.about(0) - 1, 1);
        x.open();
        Checks.due("a fault behind an open one", x.about(1), 0);
    }

    private static void writtenSinceOpened() {
        ZipGuard x = Archive.load(five().bytes());
        Checks.due("before open()", x.about(2), 0);
        x.open();
        Checks.due("nothing yet", x.about(2), 0);
        x.take(1);
        x.take(4);
        Checks.due("a folder and an empty one", x.about(2), 0);
        x.take(0);
        Checks.due("5", x.about(2), 5);
        x.take(0);
        Checks.due("anew", x.about(2), 10);
        x.take(3);
        Checks.due("a part", x.about(2), 12);
        x.limits(12, 100);
        x.take(0);
        Checks.due("a part without bytes", x.about(2), 12);
        x.open();
        Checks.due("opened anew", x.about(2), 0);
        x.take(2);
        x.alter(x.about(0) - 1, 1);
        Checks.due("alter() changes nothing", x.about(2), 2);
        Checks.due("open() with a fault", x.open(), -1);
        Checks.due("a fault", x.about(2), 0);
    }

    private static void limits() {
        ZipGuard x = new ZipGuard();
        for (int[] pair : new int[][] {{0, 0}, {0, 2000}, {40000, 0}, {40000, 2000}, {1, 2}}) {
            x.limits(pair[0], pair[1]);
            Checks.due("about(3)", x.about(3), pair[0]);
            Checks.due("about(4)", x.about(4), pair[1]);
        }
    }

    private static void aboutWrongWhat() {
        ZipGuard open = opened();
        ZipGuard fresh = new ZipGuard();
        for (int what : new int[] {-1, 5, 6, 256, MIN, MAX}) {
            Checks.dueThrow("about(" + what + ")", IllegalArgumentException.class, () -> open.about(what));
            Checks.dueThrow("about(" + what + ")", IllegalArgumentException.class, () -> fresh.about(what));
        }
    }
}
