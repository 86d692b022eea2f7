/** Promises 1 to 4: a new object, feed, end, alter. */
public final class TapeTest {
    public static void main(String[] args) {
        newObject();
        feedPutsTheHighestByteFirst();
        feedStopsAtTheLimit();
        endKeepsTheFirstBytes();
        alterChangesOneByte();
        feedAndEndShutWhatIsOpen();
        throwingCallsLeaveItOpen();
        alterLeavesItOpenButForPackedBytes();
        Checks.finish("TapeTest");
    }

    private static void newObject() {
        ZipGuard x = new ZipGuard();
        Checks.due("about(0)", x.about(0), 0);
        Checks.due("about(1)", x.about(1), 0);
        Checks.due("about(2)", x.about(2), 0);
        Checks.due("about(3)", x.about(3), 20000);
        Checks.due("about(4)", x.about(4), 100);
        Checks.due("place()", x.place(), -1);
        Checks.due("NONE", ZipGuard.NONE, -1);
        Checks.dueThrow("take(0)", IllegalStateException.class, () -> x.take(0));
    }

    private static void feedPutsTheHighestByteFirst() {
        ZipGuard x = new ZipGuard();
        Checks.due("feed", x.feed(0x01020304, 0x05060708, 0x090a0b0c, 0x0d0e0f10, 0xfffefdfc), 20);
        for (int i = 0; i < 16; i++) {
            Checks.due("byte " + i, x.alter(i, 0), i + 1);
        }
        for (int i = 16; i < 20; i++) {
            Checks.due("byte " + i, x.alter(i, 0), 255 + 16 - i);
        }
        Checks.due("feed", x.feed(0x7f000000, 0, 0, 0, 0x80), 40);
        Checks.due("byte 20", x.alter(20, 0), 127);
        Checks.due("byte 39", x.alter(39, 0), 128);
        Checks.due("about(0)", x.about(0), 40);
    }

    private static void feedStopsAtTheLimit() {
        ZipGuard x = new ZipGuard();
        for (int k = 1; k <= 1000; k++) {
            Checks.due("feed " + k, x.feed(k, k, k, k, k), 20 * k);
        }
        Checks.dueThrow("feed", IllegalStateException.class, () -> x.feed(1, 2, 3, 4, 5));
        Checks.due("about(0)", x.about(0), 20000);
        x.end(19981);
        Checks.dueThrow("feed", IllegalStateException.class, () -> x.feed(1, 2, 3, 4, 5));
        Checks.due("about(0)", x.about(0), 19981);
        x.end(19980);
        Checks.due("feed", x.feed(1, 2, 3, 4, 5), 20000);
        Checks.due("alter(19999, 0)", x.alter(19999, 0), 5);
        Checks.due("open()", x.open(), -1);
        Checks.due("place()", x.place(), 20000);
    }

    private static void endKeepsTheFirstBytes() {
        ZipGuard x = new ZipGuard();
        Checks.dueThrow("end(1)", IllegalArgumentException.class, () -> x.end(1));
        x.feed(0x01020304, 0, 0, 0, 0);
        Checks.dueThrow("end(21)", IllegalArgumentException.class, () -> x.end(21));
        Checks.dueThrow("end(-1)", IllegalArgumentException.class, () -> x.end(-1));
        Checks.dueThrow("end(min)", IllegalArgumentException.class, () -> x.end(Integer.MIN_VALUE));
        Checks.dueThrow("end(max)", IllegalArgumentException.class, () -> x.end(Integer.MAX_VALUE));
        Checks.due("about(0)", x.about(0), 20);
        x.end(20);
        Checks.due("about(0)", x.about(0), 20);
        x.end(3);
        Checks.due("about(0)", x.about(0), 3);
        Checks.due("alter(2, 9)", x.alter(2, 9), 3);
        Checks.dueThrow("alter(3, 9)", IndexOutOfBoundsException.class, () -> x.alter(3, 9));
        Checks.due("feed", x.feed(0x0a0b0c0d, 0, 0, 0, 0), 23);
        Checks.due("byte 2", x.alter(2, 0), 9);
        Checks.due("byte 3", x.alter(3, 0), 10);
        x.end(0);
        Checks.due("about(0)", x.about(0), 0);
    }

    private static void alterChangesOneByte() {
        ZipGuard x = new ZipGuard();
        Checks.dueThrow("alter(0, 1)", IndexOutOfBoundsException.class, () -> x.alter(0, 1));
        x.feed(0, 0, 0, 0, 0x00000081);
        Checks.due("alter(19, 0x1ff)", x.alter(19, 0x1ff), 129);
        Checks.due("alter(19, -2)", x.alter(19, -2), 255);
        Checks.due("alter(19, 0x100)", x.alter(19, 0x100), 254);
        Checks.due("alter(19, 0)", x.alter(19, 0), 0);
        Checks.due("alter(18, 0)", x.alter(18, 0), 0);
        Checks.due("alter(0, 77)", x.alter(0, 77), 0);
        Checks.due("alter(0, 78)", x.alter(0, 78), 77);
        Checks.dueThrow("alter(20, 1)", IndexOutOfBoundsException.class, () -> x.alter(20, 1));
        Checks.dueThrow("alter(-1, 1)", IndexOutOfBoundsException.class, () -> x.alter(-1, 1));
        Checks.dueThrow("alter(max, 1)", IndexOutOfBoundsException.class,
                () -> x.alter(Integer.MAX_VALUE, 1));
        Checks.dueThrow("alter(min, 1)", IndexOutOfBoundsException.class,
                () -> x.alter(Integer.MIN_VALUE, 1));
    }

    private static ZipGuard opened() {
        ZipGuard x = Archive.load(new Archive().store("a", "hello").bytes());
        Checks.due("open()", x.open(), 1);
        return x;
    }

    private static void feedAndEndShutWhatIsOpen() {
        ZipGuard fed = opened();
        fed.feed(0, 0, 0, 0, 0);
        Checks.due("about(1)", fed.about(1), 0);
        Checks.dueThrow("take(0)", IllegalStateException.class, () -> fed.take(0));
        ZipGuard ended = opened();
        ended.end(ended.about(0));
        Checks.due("about(1)", ended.about(1), 0);
        Checks.dueThrow("takeAll()", IllegalStateException.class, ended::takeAll);
        Checks.due("open()", ended.open(), 1);
    }

    private static void throwingCallsLeaveItOpen() {
        ZipGuard x = opened();
        int n = x.about(0);
        Checks.dueThrow("end", IllegalArgumentException.class, () -> x.end(n + 1));
        Checks.dueThrow("end", IllegalArgumentException.class, () -> x.end(-1));
        Checks.dueThrow("alter", IndexOutOfBoundsException.class, () -> x.alter(n, 0));
        Checks.due("about(1)", x.about(1), 1);
        Checks.due("take(0)", x.take(0), 0);
    }

    /** A tape of 20000 bytes: feed throws there, and must not shut the archive. */
    private static void fullTapeStaysOpen() {
        byte[] content = new byte[20000 - 22 - 46 - 30 - 2];
        ZipGuard x = Archive.load(new Archive().store("a", content).bytes());
        Checks.due("about(0)", x.about(0), 20000);
        Checks.due("open()", x.open(), 1);
        Checks.dueThrow("feed", IllegalStateException.class, () -> x.feed(1, 2, 3, 4, 5));
        Checks.due("take(0)", x.take(0), 0);
        Checks.due("about(2)", x.about(2), content.length);
    }

    private static void alterLeavesItOpenButForPackedBytes() {
        fullTapeStaysOpen();
        Archive archive = new Archive().store("ab", "hello");
        ZipGuard x = Archive.load(archive.bytes());
        x.open();
        for (int i = 0; i < x.about(0); i++) {
            boolean isPacked = i >= archive.packedPlace(0) && i < archive.packedPlace(0) + 5;
            if (!isPacked) {
                x.alter(i, 0xee);
            }
        }
        Checks.due("about(1)", x.about(1), 1);
        Checks.due("name(0, 1)", x.name(0, 1), 'b');
        Checks.due("entry(0, 3)", x.entry(0, 3), Archive.sumOf(Archive.bytesOf("hello")));
        Checks.due("take(0)", x.take(0), 0);
        Checks.due("alter", x.alter(archive.packedPlace(0) + 1, 'u'), 'e');
        Checks.due("written(0, 1)", x.written(0, 1), 'e');
        Checks.due("take(0)", x.take(0), 25);
        Checks.due("written(0, 1)", x.written(0, 1), 'u');
        Checks.due("open()", x.open(), -1);
    }
}
