import java.nio.ByteBuffer;
import java.nio.ByteOrder;
import java.nio.charset.StandardCharsets;
import java.util.ArrayList;
import java.util.Arrays;
import java.util.HashMap;
import java.util.List;
import java.util.Map;
import java.util.zip.CRC32;

/** The whole document written a second time, in another way: the tests hold ZipGuard against it. */
final class SecondGuard {
    private static final int[] ORDER = {16, 17, 18, 0, 8, 7, 9, 6, 10, 5, 11, 4, 12, 3, 13, 2, 14, 1, 15};
    private static final Map<String, Integer> FIXED_SYMBOLS = codes(fixedSymbols());
    private static final Map<String, Integer> FIXED_DISTANCES = codes(fixedDistances());

    /** A fault or a refusal, which ends the opening or the taking at once. */
    private static final class Stop extends RuntimeException {
        private static final long serialVersionUID = 1L;
        final int number;
        final int place;

        Stop(int number, long place) {
            this.number = number;
            this.place = (int) place;
        }
    }

    private static final class Item {
        String name;
        int method;
        long packed;
        long size;
        int sum;
        long from;
        int packedPlace;
        int state = 0;
        final StringBuilder out = new StringBuilder();

        boolean isFolder() {
            return name.endsWith("/");
        }

        long behind() {
            return packedPlace + packed;
        }
    }

    private byte[] tape = new byte[0];
    private int budget = 20000;
    private int ratio = 100;
    private int total = 0;
    private int place = -1;
    private boolean isOpen = false;
    private List<Item> items = new ArrayList<>();

    int feed(int a, int b, int c, int d, int e) {
        if (tape.length > 19980) {
            throw new IllegalStateException();
        }
        isOpen = false;
        int before = tape.length;
        tape = Arrays.copyOf(tape, before + 20);
        ByteBuffer.wrap(tape, before, 20).putInt(a).putInt(b).putInt(c).putInt(d).putInt(e);
        return tape.length;
    }

    void end(int n) {
        if (n < 0 || n > tape.length) {
            throw new IllegalArgumentException();
        }
        isOpen = false;
        tape = Arrays.copyOf(tape, n);
    }

    int alter(int i, int b) {
        if (i < 0 || i >= tape.length) {
            throw new IndexOutOfBoundsException();
        }
        int before = tape[i] & 255;
        tape[i] = (byte) b;
        return before;
    }

    int open() {
        isOpen = false;
        total = 0;
        place = -1;
        try {
            items = new Opening(tape).items();
            isOpen = true;
            return items.size();
        } catch (Stop stop) {
            place = stop.place;
            return -stop.number;
        }
    }

    int place() {
        return place;
    }

    void limits(int newBudget, int newRatio) {
        if (newBudget < 0 || newBudget > 40000 || newRatio < 0 || newRatio > 2000) {
            throw new IllegalArgumentException();
        }
        budget = newBudget;
        ratio = newRatio;
    }

    int take(int entry) {
        Item item = item(entry);
        if (item.isFolder()) {
            item.state = 1;
            return 0;
        }
        item.out.setLength(0);
        try {
            new Taking(item).run();
            item.state = 1;
            return 0;
        } catch (Stop stop) {
            item.state = 2;
            return stop.number;
        }
    }

    int takeAll() {
        if (!isOpen) {
            throw new IllegalStateException();
        }
        int taken = 0;
        while (taken < items.size() && take(taken) == 0) {
            taken++;
        }
        return taken;
    }

    int entry(int entry, int what) {
        Item item = item(entry);
        long[] told = {
            item.method, item.packed, item.size, item.sum, item.isFolder() ? 1 : 0, item.state, item.out.length(),
            item.name.length()
        };
        if (what < 0 || what >= told.length) {
            throw new IllegalArgumentException();
        }
        return (int) told[what];
    }

    int name(int entry, int k) {
        Item item = item(entry);
        return k < 0 || k >= item.name.length() ? -1 : item.name.charAt(k);
    }

    int written(int entry, int k) {
        StringBuilder out = item(entry).out;
        return k < 0 || k >= out.length() ? -1 : out.charAt(k);
    }

    int about(int what) {
        int[] told = {tape.length, isOpen ? items.size() : 0, total, budget, ratio};
        if (what < 0 || what >= told.length) {
            throw new IllegalArgumentException();
        }
        return told[what];
    }

    private Item item(int entry) {
        if (!isOpen) {
            throw new IllegalStateException();
        }
        if (entry < 0 || entry >= items.size()) {
            throw new IndexOutOfBoundsException();
        }
        return items.get(entry);
    }

    private static void check(boolean isRight, int number, long place) {
        if (!isRight) {
            throw new Stop(number, place);
        }
    }

    private static final class Opening {
        private final ByteBuffer tape;
        private final String text;
        private final List<Item> items = new ArrayList<>();

        Opening(byte[] bytes) {
            tape = ByteBuffer.wrap(bytes).order(ByteOrder.LITTLE_ENDIAN);
            text = new String(bytes, StandardCharsets.ISO_8859_1);
        }

        private int two(int i) {
            return tape.getShort(i) & 0xffff;
        }

        private long four(int i) {
            return tape.getInt(i) & 0xffffffffL;
        }

        private int end() {
            int e = text.lastIndexOf("PK\u0005\u0006");
            while (e >= 0 && (e + 22 > text.length() || e + 22 + two(e + 20) != text.length())) {
                e = e == 0 ? -1 : text.lastIndexOf("PK\u0005\u0006", e - 1);
            }
            return e;
        }

        List<Item> items() {
            int e = end();
            check(e >= 0, 1, text.length());
            check(tape.getInt(e + 4) == 0, 2, e + 4);
            check(two(e + 8) == two(e + 10), 2, e + 8);
            check(four(e + 12) + four(e + 16) == e, 3, e + 12);
            check(two(e + 10) <= 64, 4, e + 10);
            int first = (int) four(e + 16);
            int c = first;
            for (int i = 0; i < two(e + 10); i++) {
                c = item(c, first, e);
            }
            check(c == e, 11, c);
            return items;
        }

        private int item(int c, int first, int e) {
            check(e - c >= 46 && text.startsWith("PK\u0001\u0002", c), 5, c);
            int behind = c + 46 + two(c + 28) + two(c + 30) + two(c + 32);
            check(behind <= e, 5, c);
            Item item = new Item();
            item.name = text.substring(c + 46, c + 46 + two(c + 28));
            numbers(c, item);
            checkName(c, item.name);
            local(c, first, item);
            items.add(item);
            return behind;
        }

        private void numbers(int c, Item item) {
            check(two(c + 6) <= 20, 6, c + 6);
            check((two(c + 8) | 2 | 4 | 2048) == (2 | 4 | 2048), 6, c + 8);
            item.method = two(c + 10);
            check(item.method == 0 || item.method == 8, 6, c + 10);
            check(two(c + 34) == 0, 6, c + 34);
            item.sum = tape.getInt(c + 16);
            item.packed = four(c + 20);
            item.size = four(c + 24);
            check(item.method == 8 || item.packed == item.size, 6, c + 20);
            check(!item.isFolder() || item.packed + item.size + item.method == 0, 6, c + 20);
        }

        private void checkName(int c, String name) {
            check(isName(name), 7, c + 46);
            for (Item before : items) {
                String other = before.name;
                check(!bare(name).equals(bare(other)), 8, c + 46);
                check(name.endsWith("/") || !other.startsWith(name + "/"), 8, c + 46);
                check(other.endsWith("/") || !name.startsWith(other + "/"), 8, c + 46);
            }
        }

        private static String bare(String name) {
            return name.endsWith("/") ? name.substring(0, name.length() - 1) : name;
        }

        private static boolean isName(String name) {
            String[] parts = bare(name).split("/", -1);
            for (String part : parts) {
                if (part.isEmpty() || part.equals(".") || part.equals("..")) {
                    return false;
                }
            }
            return parts.length <= 8 && name.matches("[ -~&&[^\\\\:*?\"<>|]]{1,60}");
        }

        private void local(int c, int first, Item item) {
            item.from = four(c + 42);
            check(item.from + 30 <= first, 9, c + 42);
            int at = (int) item.from;
            check(text.startsWith("PK\u0003\u0004", at), 9, c + 42);
            check(text.startsWith(text.substring(c + 6, c + 12), at + 4), 9, c + 42);
            check(text.startsWith(text.substring(c + 16, c + 30), at + 14), 9, c + 42);
            check(text.startsWith(item.name, at + 30), 9, c + 42);
            item.packedPlace = at + 30 + item.name.length() + two(at + 28);
            check(item.behind() <= first, 9, c + 42);
            for (Item before : items) {
                check(item.behind() <= before.from || before.behind() <= item.from, 10, c + 42);
            }
        }
    }

    private static int[] fixedSymbols() {
        int[] lengths = new int[288];
        for (int k = 0; k < 288; k++) {
            lengths[k] = k <= 143 ? 8 : k <= 255 ? 9 : k <= 279 ? 7 : 8;
        }
        return lengths;
    }

    private static int[] fixedDistances() {
        int[] lengths = new int[32];
        Arrays.fill(lengths, 5);
        return lengths;
    }

    /** Each code and, with -1, each beginning of one. */
    private static Map<String, Integer> codes(int[] lengths) {
        Map<String, Integer> codes = new HashMap<>();
        int next = 0;
        for (int length = 1; length <= 15; length++) {
            next *= 2;
            for (int symbol = 0; symbol < lengths.length; symbol++) {
                if (lengths[symbol] == length) {
                    String code = Integer.toBinaryString(1 << length | next).substring(1);
                    codes.put(code, symbol);
                    for (int k = 0; k < length; k++) {
                        codes.put(code.substring(0, k), -1);
                    }
                    next++;
                }
            }
        }
        return codes;
    }

    /** Bits are kept as a text of '0' and '1', codes as texts too. */
    private final class Taking {
        private final Item item;
        private final byte[] packed;
        private final String bits;
        private int at = 0;

        Taking(Item item) {
            this.item = item;
            packed = Arrays.copyOfRange(tape, item.packedPlace, (int) item.behind());
            StringBuilder text = new StringBuilder();
            for (byte b : packed) {
                for (int k = 0; k < 8; k++) {
                    text.append((b >> k & 1) == 1 ? '1' : '0');
                }
            }
            bits = text.toString();
        }

        void run() {
            if (item.method == 0) {
                for (byte b : packed) {
                    write(b);
                }
            } else {
                blocks();
                check(item.out.length() >= item.size, 23, 0);
                check(bits.length() - at < 8, 24, 0);
            }
            CRC32 sum = new CRC32();
            sum.update(item.out.toString().getBytes(StandardCharsets.ISO_8859_1));
            check((int) sum.getValue() == item.sum, 25, 0);
        }

        private void write(int b) {
            check(item.out.length() < item.size, 20, 0);
            check(item.out.length() < ratio * item.packed + 16, 21, 0);
            check(total < budget, 22, 0);
            item.out.append((char) (b & 255));
            total++;
        }

        private int number(int n) {
            int value = 0;
            for (int k = 0; k < n; k++) {
                value += (bit() == '1' ? 1 : 0) << k;
            }
            return value;
        }

        private char bit() {
            check(at < bits.length(), 30, 0);
            return bits.charAt(at++);
        }

        private void blocks() {
            boolean isLast = false;
            while (!isLast) {
                isLast = number(1) == 1;
                int kind = number(2);
                check(kind != 3, 37, 0);
                if (kind == 0) {
                    stored();
                } else if (kind == 1) {
                    coded(FIXED_SYMBOLS, FIXED_DISTANCES);
                } else {
                    ownCodes();
                }
            }
        }

        private void stored() {
            at = (at + 7) / 8 * 8;
            int n = number(16);
            check(n + number(16) == 65535, 31, 0);
            for (int k = 0; k < n; k++) {
                write(number(8));
            }
        }

        private void ownCodes() {
            int symbols = number(5) + 257;
            int distances = number(5) + 1;
            int n = number(4) + 4;
            check(symbols <= 286 && distances <= 30, 32, 0);
            int[] forLengths = new int[19];
            for (int k = 0; k < n; k++) {
                forLengths[ORDER[k]] = number(3);
            }
            check(fill(forLengths) == 1.0, 33, 0);
            int[] row = row(codes(forLengths), symbols + distances);
            int[] ofSymbols = Arrays.copyOf(row, symbols);
            int[] ofDistances = Arrays.copyOfRange(row, symbols, row.length);
            check(ofSymbols[256] > 0, 33, 0);
            check(fill(ofSymbols) == 1.0, 33, 0);
            double filled = fill(ofDistances);
            boolean isLone = Arrays.stream(ofDistances).filter(l -> l > 0).count() == 1 && filled == 0.5;
            check(filled == 1.0 || filled == 0.0 || isLone, 33, 0);
            coded(codes(ofSymbols), codes(ofDistances));
        }

        private double fill(int[] lengths) {
            double all = 0;
            for (int length : lengths) {
                all += length > 0 ? Math.pow(2, -length) : 0;
            }
            return all;
        }

        private int[] row(Map<String, Integer> codes, int n) {
            List<Integer> row = new ArrayList<>();
            while (row.size() < n) {
                int symbol = symbol(codes);
                int times = symbol < 16 ? 1 : symbol == 16 ? 3 + number(2) : symbol == 17 ? 3 + number(3)
                        : 11 + number(7);
                check(symbol != 16 || !row.isEmpty(), 33, 0);
                int length = symbol < 16 ? symbol : symbol == 16 ? row.get(row.size() - 1) : 0;
                for (int k = 0; k < times; k++) {
                    row.add(length);
                }
            }
            check(row.size() == n, 33, 0);
            return row.stream().mapToInt(Integer::intValue).toArray();
        }

        private int symbol(Map<String, Integer> codes) {
            String read = "";
            int symbol = -1;
            while (symbol < 0) {
                read += bit();
                check(codes.containsKey(read), 34, 0);
                symbol = codes.get(read);
            }
            return symbol;
        }

        private void coded(Map<String, Integer> symbols, Map<String, Integer> distances) {
            for (int symbol = symbol(symbols); symbol != 256; symbol = symbol(symbols)) {
                if (symbol < 256) {
                    write(symbol);
                } else {
                    again(symbol, distances);
                }
            }
        }

        /** The public rule by reckoning: groups of four lengths, and of two distances, double. */
        private void again(int symbol, Map<String, Integer> distances) {
            check(symbol <= 285, 35, 0);
            int step = symbol - 257;
            int further = step < 8 ? 0 : step / 4 - 1;
            int length = step < 8 ? 3 + step : 3 + (4 + step % 4 << further);
            length = symbol == 285 ? 258 : length + number(further);
            int far = symbol(distances);
            check(far <= 29, 35, 0);
            further = far < 4 ? 0 : far / 2 - 1;
            int distance = far < 4 ? 1 + far : 1 + (2 + far % 2 << further);
            distance += number(further);
            check(distance <= item.out.length(), 36, 0);
            for (int k = 0; k < length; k++) {
                write(item.out.charAt(item.out.length() - distance));
            }
        }
    }
}
