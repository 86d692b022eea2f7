/** Promises 7 to 9: limits, take and takeAll, with the refusals 20 to 25. */
public final class TakeTest {
    public static void main(String[] args) {
        wrongLimits();
        wrongCalls();
        takesStoredBytes();
        foldersAreTaken();
        budgetCountsAllThatIsWritten();
        budgetCountsAnew();
        ratioCountsPackedBytes();
        sizeComesFirst();
        tooShortLeftOverWrongSum();
        takeAllStopsAtTheFirstRefusal();
        manyTakesFillTheLargestBudget();
        Checks.finish("TakeTest");
    }

    private static ZipGuard opened(Archive archive) {
        ZipGuard x = Archive.load(archive.bytes());
        if (x.open() < 0) {
            Checks.due("open()", x.open(), 1);
        }
        return x;
    }

    private static void wroteDue(ZipGuard x, int entry, String text, int state) {
        Checks.due("entry(" + entry + ", 5)", x.entry(entry, 5), state);
        Checks.due("entry(" + entry + ", 6)", x.entry(entry, 6), text.length());
        for (int k = 0; k < text.length(); k++) {
            Checks.due("written(" + entry + ", " + k + ")", x.written(entry, k), text.charAt(k));
        }
        Checks.due("written behind", x.written(entry, text.length()), -1);
    }

    private static void limitsDue(ZipGuard x, int budget, int ratio) {
        Checks.due("about(3)", x.about(3), budget);
        Checks.due("about(4)", x.about(4), ratio);
    }

    private static void wrongLimits() {
        ZipGuard x = new ZipGuard();
        limitsDue(x, 20000, 100);
        int[][] wrong = {
            {-1, 0}, {40001, 0}, {0, -1}, {0, 2001}, {Integer.MAX_VALUE, 5}, {5, Integer.MIN_VALUE}
        };
        for (int[] w : wrong) {
            Checks.dueThrow("limits(" + w[0] + ", " + w[1] + ")", IllegalArgumentException.class,
                    () -> x.limits(w[0], w[1]));
            limitsDue(x, 20000, 100);
        }
        x.limits(0, 0);
        limitsDue(x, 0, 0);
        x.limits(40000, 2000);
        limitsDue(x, 40000, 2000);
        x.open();
        x.feed(0, 0, 0, 0, 0);
        x.end(0);
        limitsDue(x, 40000, 2000);
    }

    private static void wrongCalls() {
        ZipGuard shut = new ZipGuard();
        Checks.dueThrow("take(0)", IllegalStateException.class, () -> shut.take(0));
        Checks.dueThrow("take(-1)", IllegalStateException.class, () -> shut.take(-1));
        Checks.dueThrow("takeAll()", IllegalStateException.class, shut::takeAll);
        ZipGuard x = opened(new Archive().store("a", "b"));
        Checks.dueThrow("take(1)", IndexOutOfBoundsException.class, () -> x.take(1));
        Checks.dueThrow("take(-1)", IndexOutOfBoundsException.class, () -> x.take(-1));
        Checks.dueThrow("take(64)", IndexOutOfBoundsException.class, () -> x.take(64));
        Checks.due("about(2)", x.about(2), 0);
        Checks.due("entry(0, 5)", x.entry(0, 5), 0);
        ZipGuard empty = opened(new Archive());
        Checks.due("takeAll() of none", empty.takeAll(), 0);
        Checks.dueThrow("take(0) of none", IndexOutOfBoundsException.class, () -> empty.take(0));
    }

    private static void takesStoredBytes() {
        String all = "\u0000\u0001\u007f\u0080\u00ff and more";
        ZipGuard x = opened(new Archive().store("a", all).store("b", "").store("c", "xyz").with("123", "", ""));
        Checks.due("take(0)", x.take(0), 0);
        Checks.due("take(1)", x.take(1), 0);
        Checks.due("take(2)", x.take(2), 0);
        wroteDue(x, 0, all, 1);
        wroteDue(x, 1, "", 1);
        wroteDue(x, 2, "xyz", 1);
        Checks.due("about(2)", x.about(2), all.length() + 3);
    }

    private static void foldersAreTaken() {
        Archive archive = new Archive().add("d/", 0, new byte[0], 0, 12345);
        ZipGuard x = opened(archive);
        x.limits(0, 0);
        Checks.due("take(0)", x.take(0), 0);
        wroteDue(x, 0, "", 1);
        Checks.due("takeAll()", x.takeAll(), 1);
        Checks.due("about(2)", x.about(2), 0);
    }

    private static void budgetCountsAllThatIsWritten() {
        ZipGuard x = opened(new Archive().store("a", "hello").store("b", "world").store("c", ""));
        x.limits(7, 100);
        Checks.due("take(0)", x.take(0), 0);
        Checks.due("take(1)", x.take(1), 22);
        wroteDue(x, 0, "hello", 1);
        wroteDue(x, 1, "wo", 2);
        Checks.due("about(2)", x.about(2), 7);
        Checks.due("take(2)", x.take(2), 0);
        x.limits(12, 100);
        Checks.due("take(1)", x.take(1), 0);
        wroteDue(x, 1, "world", 1);
        x.limits(3, 100);
        Checks.due("take(1)", x.take(1), 22);
        wroteDue(x, 1, "", 2);
        wroteDue(x, 0, "hello", 1);
        Checks.due("about(2)", x.about(2), 12);
        Checks.due("open()", x.open(), 3);
        Checks.due("take(0)", x.take(0), 22);
        wroteDue(x, 0, "hel", 2);
    }

    private static void budgetCountsAnew() {
        ZipGuard x = opened(new Archive().store("a", "hello"));
        x.limits(15, 100);
        for (int k = 1; k <= 3; k++) {
            Checks.due("take(0)", x.take(0), 0);
            Checks.due("about(2)", x.about(2), 5 * k);
            Checks.due("entry(0, 6)", x.entry(0, 6), 5);
        }
        Checks.due("take(0)", x.take(0), 22);
        wroteDue(x, 0, "", 2);
    }

    private static void ratioCountsPackedBytes() {
        String text = "0123456789abcdefghij";
        ZipGuard x = opened(new Archive().store("a", text).store("b", text.substring(0, 16)));
        x.limits(40000, 0);
        Checks.due("take(0)", x.take(0), 21);
        wroteDue(x, 0, text.substring(0, 16), 2);
        Checks.due("take(1)", x.take(1), 0);
        x.limits(40000, 1);
        Checks.due("take(0)", x.take(0), 0);
        // 23 packed bytes: one literal, then copies, 258 at a time.
        byte[] zeros = new byte[1 + 258 * 10];
        BitWriter bits = new BitWriter().head(true, 1).fixed(0);
        for (int k = 0; k < 10; k++) {
            bits.fixed(285).code(0, 5);
        }
        byte[] packed = bits.fixed(256).bytes();
        ZipGuard y = opened(new Archive().packed("a", packed, zeros));
        int[] ratios = {0, 1, 2, 100, 2000};
        for (int ratio : ratios) {
            y.limits(40000, ratio);
            int most = ratio * packed.length + 16;
            boolean fits = most >= zeros.length;
            Checks.due("take(0) at ratio " + ratio, y.take(0), fits ? 0 : 21);
            Checks.due("entry(0, 6) at ratio " + ratio, y.entry(0, 6), fits ? zeros.length : most);
        }
    }

    private static void sizeComesFirst() {
        byte[] packed = new BitWriter().head(true, 1).fixedText("abcdefghijklmnopqrst").fixed(256).bytes();
        int length = packed.length;
        ZipGuard x = opened(new Archive().add("a", 8, packed, 16, 0).add("b", 8, packed, 17, 0)
                .add("c", 8, packed, 0, 0));
        x.limits(16, 0);
        Checks.due("20 before 21 and 22", x.take(0), 20);
        wroteDue(x, 0, "abcdefghijklmnop", 2);
        x.limits(32, 0);
        Checks.due("21 before 22", x.take(1), 21);
        wroteDue(x, 1, "abcdefghijklmnop", 2);
        x.limits(33, 0);
        Checks.due("22 alone", x.take(1), 22);
        Checks.due("size 0", x.take(2), 20);
        Checks.due("entry(0, 1)", x.entry(0, 1), length);
    }

    private static void tooShortLeftOverWrongSum() {
        byte[] packed = new BitWriter().head(true, 1).fixedText("abc").fixed(256).bytes();
        byte[] longer = java.util.Arrays.copyOf(packed, packed.length + 1);
        int sum = Archive.sumOf(Archive.bytesOf("abc"));
        ZipGuard x = opened(new Archive().add("a", 8, longer, 4, 0).add("b", 8, longer, 3, 0)
                .add("c", 8, longer, 3, sum).add("d", 8, packed, 3, sum + 1).add("e", 8, packed, 3, sum)
                .add("f", 8, packed, 0xffffffffL, sum));
        int[] due = {23, 24, 24, 25, 0, 23};
        for (int i = 0; i < due.length; i++) {
            Checks.due("take(" + i + ")", x.take(i), due[i]);
            wroteDue(x, i, "abc", due[i] == 0 ? 1 : 2);
        }
        ZipGuard y = opened(new Archive().add("a", 0, Archive.bytesOf("abc"), 3, ~sum)
                .add("b", 0, new byte[0], 0, 1));
        Checks.due("take(0)", y.take(0), 25);
        wroteDue(y, 0, "abc", 2);
        Checks.due("take(1)", y.take(1), 25);
        wroteDue(y, 1, "", 2);
    }

    private static void takeAllStopsAtTheFirstRefusal() {
        ZipGuard x = opened(new Archive().store("a", "one").folder("d/").add("b", 0, Archive.bytesOf("two"), 3, 0)
                .store("c", "three"));
        Checks.due("takeAll()", x.takeAll(), 2);
        wroteDue(x, 0, "one", 1);
        wroteDue(x, 1, "", 1);
        wroteDue(x, 2, "two", 2);
        wroteDue(x, 3, "", 0);
        Checks.due("about(2)", x.about(2), 6);
        Checks.due("takeAll()", x.takeAll(), 2);
        Checks.due("about(2)", x.about(2), 12);
        x.limits(13, 100);
        Checks.due("takeAll()", x.takeAll(), 0);
        wroteDue(x, 0, "o", 2);
        ZipGuard whole = opened(new Archive().store("a", "one").folder("d/").store("c", "three"));
        Checks.due("takeAll()", whole.takeAll(), 3);
        wroteDue(whole, 2, "three", 1);
    }

    private static void manyTakesFillTheLargestBudget() {
        byte[] content = new byte[9000];
        for (int i = 0; i < content.length; i++) {
            content[i] = (byte) (i * i >> 3);
        }
        ZipGuard x = opened(new Archive().store("a", content));
        x.limits(40000, 2000);
        for (int k = 0; k < 4; k++) {
            Checks.due("take(0)", x.take(0), 0);
        }
        Checks.due("take(0)", x.take(0), 22);
        Checks.due("entry(0, 6)", x.entry(0, 6), 4000);
        Checks.due("written(0, 3999)", x.written(0, 3999), content[3999] & 255);
        Checks.due("take(0)", x.take(0), 22);
        Checks.due("entry(0, 6)", x.entry(0, 6), 0);
        Checks.due("about(2)", x.about(2), 40000);
    }
}
