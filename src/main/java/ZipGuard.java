import java.util.Arrays;

/**
 * Opens archives after the public rules of packed files, and takes out of them only what is safe.
 *
 * <p>The tape holds the archive's bytes, the directory what was read of it when it was opened, the
 * target what was taken out. Inside, a number below 0 is always a fault or a refusal.
 */
public final class ZipGuard {
    public static final int NONE = -1;

    private static final int FIRST_BUDGET = 20000;
    private static final int MOST_BUDGET = 40000;
    private static final int FIRST_RATIO = 100;
    private static final int MOST_RATIO = 2000;
    private static final int BYTES_A_FEED = 20;

    private final Tape tape;
    private final Directory directory;
    private final Target target;
    private final Unpacker unpacker;

    public ZipGuard() {
        tape = new Tape();
        directory = new Directory(tape);
        target = new Target();
        unpacker = new Unpacker(tape, target);
    }

    public int feed(int a, int b, int c, int d, int e) throws IllegalStateException {
        if (!tape.hasRoomFor(BYTES_A_FEED)) {
            throw new IllegalStateException();
        }
        directory.shut();
        tape.append(a);
        tape.append(b);
        tape.append(c);
        tape.append(d);
        tape.append(e);
        return tape.length;
    }

    public void end(int n) throws IllegalArgumentException {
        if (n < 0 || n > tape.length) {
            throw new IllegalArgumentException();
        }
        directory.shut();
        tape.keepFirst(n);
    }

    public int alter(int i, int b) throws IndexOutOfBoundsException {
        if (i < 0 || i >= tape.length) {
            throw new IndexOutOfBoundsException();
        }
        return tape.replace(i, b);
    }

    public int open() {
        target.clear();
        return directory.read();
    }

    public int place() {
        return directory.faultPlace;
    }

    public void limits(int budget, int ratio) throws IllegalArgumentException {
        if (budget < 0 || budget > MOST_BUDGET || ratio < 0 || ratio > MOST_RATIO) {
            throw new IllegalArgumentException();
        }
        target.budget = budget;
        target.ratio = ratio;
    }

    public int take(int entry) throws IllegalStateException, IndexOutOfBoundsException {
        return -unpacker.takeOut(openEntry(entry));
    }

    public int takeAll() throws IllegalStateException {
        if (!directory.isOpen) {
            throw new IllegalStateException();
        }
        for (int i = 0; i < directory.count; i++) {
            if (unpacker.takeOut(directory.entries[i]) < 0) {
                return i;
            }
        }
        return directory.count;
    }

    public int entry(int entry, int what)
            throws IllegalStateException, IndexOutOfBoundsException, IllegalArgumentException {
        Entry asked = openEntry(entry);
        switch (what) {
            case 0:
                return asked.method;
            case 1:
                return asked.packed;
            case 2:
                return (int) asked.size;
            case 3:
                return asked.sum;
            case 4:
                return asked.isFolder ? 1 : 0;
            case 5:
                return asked.state;
            case 6:
                return asked.outLength;
            case 7:
                return asked.nameLength;
            default:
                throw new IllegalArgumentException();
        }
    }

    public int name(int entry, int k) throws IllegalStateException, IndexOutOfBoundsException {
        Entry asked = openEntry(entry);
        return k < 0 || k >= asked.nameLength ? NONE : asked.nameBytes[k];
    }

    public int written(int entry, int k) throws IllegalStateException, IndexOutOfBoundsException {
        Entry asked = openEntry(entry);
        return k < 0 || k >= asked.outLength ? NONE : target.byteOf(asked, k);
    }

    public int about(int what) throws IllegalArgumentException {
        switch (what) {
            case 0:
                return tape.length;
            case 1:
                return directory.isOpen ? directory.count : 0;
            case 2:
                return target.total;
            case 3:
                return target.budget;
            case 4:
                return target.ratio;
            default:
                throw new IllegalArgumentException();
        }
    }

    private Entry openEntry(int entry) throws IllegalStateException, IndexOutOfBoundsException {
        if (!directory.isOpen) {
            throw new IllegalStateException();
        }
        if (entry < 0 || entry >= directory.count) {
            throw new IndexOutOfBoundsException();
        }
        return directory.entries[entry];
    }

    /** The bytes that were fed; what lies behind its length reads as 0. */
    private static final class Tape {
        private static final int MOST_BYTES = 20000;

        final byte[] bytes;
        int length;

        Tape() {
            bytes = new byte[MOST_BYTES];
            length = 0;
        }

        boolean hasRoomFor(int more) {
            return length + more <= bytes.length;
        }

        void append(int number) {
            if (!hasRoomFor(4)) {
                return;
            }
            for (int shift = 24; shift >= 0; shift -= 8) {
                bytes[length] = (byte) (number >> shift);
                length++;
            }
        }

        void keepFirst(int n) {
            if (n >= 0 && n <= length) {
                length = n;
            }
        }

        int replace(int i, int b) {
            int before = byteAt(i);
            if (i >= 0 && i < length) {
                bytes[i] = (byte) b;
            }
            return before;
        }

        int byteAt(int i) {
            return i >= 0 && i < length ? bytes[i] & 255 : 0;
        }

        int twoAt(int i) {
            return byteAt(i) | byteAt(i + 1) << 8;
        }

        /** A long, for the number has no sign. */
        long fourAt(int i) {
            return byteAt(i) | byteAt(i + 1) << 8 | byteAt(i + 2) << 16 | (long) byteAt(i + 3) << 24;
        }

        boolean hasMarkAt(int i, int third, int fourth) {
            return byteAt(i) == 80 && byteAt(i + 1) == 75
                    && byteAt(i + 2) == third && byteAt(i + 3) == fourth;
        }

        boolean isSame(int i, int j, int n) {
            for (int k = 0; k < n; k++) {
                if (byteAt(i + k) != byteAt(j + k)) {
                    return false;
                }
            }
            return true;
        }
    }

    /**
     * What was told of an entry when it was opened, and what is written of it now. It keeps copies
     * because alter() may change the tape below an open archive.
     */
    private static final class Entry {
        static final int LONGEST_NAME = 60;
        static final int NOT_TAKEN = 0;
        static final int WHOLE = 1;
        static final int PART = 2;

        final byte[] nameBytes;
        int nameLength;
        boolean isFolder;
        int method;
        int packed;
        long size;
        int sum;
        int localPlace;
        int packedPlace;
        int state;
        int outPlace;
        int outLength;

        Entry() {
            nameBytes = new byte[LONGEST_NAME];
        }

        void forgetWhatIsWritten() {
            state = NOT_TAKEN;
            outPlace = 0;
            outLength = 0;
        }

        void keepName(Tape tape, int from, int n) {
            nameLength = n <= LONGEST_NAME ? n : LONGEST_NAME;
            for (int k = 0; k < nameLength; k++) {
                nameBytes[k] = (byte) tape.byteAt(from + k);
            }
            isFolder = nameLength > 0 && nameBytes[nameLength - 1] == '/';
        }

        /**
         * Whether both have the same name, or one of them lies in a file. A folder with a file's
         * name needs no look of its own: its '/' makes it lie in the file.
         */
        boolean clashesWith(Entry other) {
            Entry shorter = nameLength <= other.nameLength ? this : other;
            Entry longer = shorter == this ? other : this;
            int n = shorter.nameLength;
            for (int k = 0; k < n; k++) {
                if (shorter.nameBytes[k] != longer.nameBytes[k]) {
                    return false;
                }
            }
            return n == longer.nameLength || !shorter.isFolder && longer.nameBytes[n] == '/';
        }

        int behindPacked() {
            return packedPlace + packed;
        }

        boolean liesOver(Entry other) {
            return localPlace < other.behindPacked() && other.localPlace < behindPacked();
        }
    }

    /** Opening: reads the entries, and looks for the first fault on the way. */
    private static final class Directory {
        private static final int NO_END = -1;
        private static final int WRONG_COUNTS = -2;
        private static final int WRONG_SPAN = -3;
        private static final int TOO_MANY = -4;
        private static final int NO_ENTRY = -5;
        private static final int WRONG_NUMBER = -6;
        private static final int NO_NAME = -7;
        private static final int NAME_CLASH = -8;
        private static final int NO_LOCAL = -9;
        private static final int LIES_OVER = -10;
        private static final int NOT_AT_END = -11;

        private static final int MOST_ENTRIES = 64;
        private static final int MOST_PARTS = 8;
        private static final int END_BYTES = 22;
        private static final int ENTRY_BYTES = 46;
        private static final int LOCAL_BYTES = 30;
        private static final int NEWEST_VERSION = 20;
        private static final int KNOWN_FLAGS = 1 << 1 | 1 << 2 | 1 << 11;

        final Entry[] entries;
        int count;
        boolean isOpen;
        int faultPlace;
        private final Tape tape;

        Directory(Tape tape) {
            this.tape = tape;
            entries = new Entry[MOST_ENTRIES];
            for (int i = 0; i < MOST_ENTRIES; i++) {
                entries[i] = new Entry();
            }
            count = 0;
            isOpen = false;
            faultPlace = NONE;
        }

        void shut() {
            isOpen = false;
        }

        /** How many entries there are, or the fault. */
        int read() {
            isOpen = false;
            faultPlace = NONE;
            int end = findEnd();
            int fault = end < 0 ? faultAt(NO_END, tape.length) : checkEnd(end);
            if (fault < 0) {
                return fault;
            }
            fault = readEntries(end);
            if (fault < 0) {
                return fault;
            }
            isOpen = true;
            return count;
        }

        private int faultAt(int fault, int place) {
            faultPlace = place;
            return fault;
        }

        private int findEnd() {
            for (int e = tape.length - END_BYTES; e >= 0; e--) {
                if (tape.hasMarkAt(e, 5, 6) && e + END_BYTES + tape.twoAt(e + 20) == tape.length) {
                    return e;
                }
            }
            return NONE;
        }

        private int checkEnd(int e) {
            if (tape.fourAt(e + 4) != 0) {
                return faultAt(WRONG_COUNTS, e + 4);
            }
            if (tape.twoAt(e + 8) != tape.twoAt(e + 10)) {
                return faultAt(WRONG_COUNTS, e + 8);
            }
            if (tape.fourAt(e + 12) + tape.fourAt(e + 16) != e) {
                return faultAt(WRONG_SPAN, e + 12);
            }
            if (tape.twoAt(e + 10) > MOST_ENTRIES) {
                return faultAt(TOO_MANY, e + 10);
            }
            return 0;
        }

        private int readEntries(int end) {
            int first = (int) tape.fourAt(end + 16);
            int told = tape.twoAt(end + 10);
            int c = first;
            for (count = 0; count < told && count < MOST_ENTRIES; count++) {
                int fault = checkSpan(c, end);
                if (fault == 0) {
                    fault = checkNumbers(c);
                }
                if (fault == 0) {
                    fault = readName(c + ENTRY_BYTES, tape.twoAt(c + 28));
                }
                if (fault == 0) {
                    fault = readLocal(c, first);
                }
                if (fault < 0) {
                    return fault;
                }
                c = behindEntry(c);
            }
            return c == end ? 0 : faultAt(NOT_AT_END, c);
        }

        private int behindEntry(int c) {
            return c + ENTRY_BYTES + tape.twoAt(c + 28) + tape.twoAt(c + 30) + tape.twoAt(c + 32);
        }

        private int checkSpan(int c, int end) {
            boolean fits = c + ENTRY_BYTES <= end && tape.hasMarkAt(c, 1, 2) && behindEntry(c) <= end;
            return fits ? 0 : faultAt(NO_ENTRY, c);
        }

        private int checkNumbers(int c) {
            if (tape.twoAt(c + 6) > NEWEST_VERSION) {
                return faultAt(WRONG_NUMBER, c + 6);
            }
            if ((tape.twoAt(c + 8) & ~KNOWN_FLAGS) != 0) {
                return faultAt(WRONG_NUMBER, c + 8);
            }
            int method = tape.twoAt(c + 10);
            if (method != 0 && method != 8) {
                return faultAt(WRONG_NUMBER, c + 10);
            }
            if (tape.twoAt(c + 34) != 0) {
                return faultAt(WRONG_NUMBER, c + 34);
            }
            return hasRightSizes(c, method) ? 0 : faultAt(WRONG_NUMBER, c + 20);
        }

        private boolean hasRightSizes(int c, int method) {
            long packed = tape.fourAt(c + 20);
            long size = tape.fourAt(c + 24);
            if (method == 0 && packed != size) {
                return false;
            }
            int nameLength = tape.twoAt(c + 28);
            boolean isFolder = nameLength > 0 && tape.byteAt(c + ENTRY_BYTES + nameLength - 1) == '/';
            return !isFolder || method == 0 && packed == 0 && size == 0;
        }

        private int readName(int from, int n) {
            if (!isName(from, n)) {
                return faultAt(NO_NAME, from);
            }
            entries[count].keepName(tape, from, n);
            for (int i = 0; i < count; i++) {
                if (entries[count].clashesWith(entries[i])) {
                    return faultAt(NAME_CLASH, from);
                }
            }
            return 0;
        }

        private boolean isName(int from, int n) {
            if (n < 1 || n > Entry.LONGEST_NAME) {
                return false;
            }
            int parts = 0;
            int partStart = 0;
            for (int k = 0; k < n; k++) {
                int b = tape.byteAt(from + k);
                if (!isNameByte(b)) {
                    return false;
                }
                boolean isSlash = b == '/';
                if (isSlash || k == n - 1) {
                    int partEnd = isSlash ? k : n;
                    if (!isPart(from + partStart, partEnd - partStart)) {
                        return false;
                    }
                    parts++;
                    partStart = k + 1;
                }
            }
            return parts <= MOST_PARTS;
        }

        private boolean isNameByte(int b) {
            switch (b) {
                case '\\':
                case ':':
                case '*':
                case '?':
                case '"':
                case '<':
                case '>':
                case '|':
                    return false;
                default:
                    return b >= 32 && b <= 126;
            }
        }

        private boolean isPart(int from, int n) {
            boolean isOneDot = n == 1 && tape.byteAt(from) == '.';
            boolean isTwoDots = n == 2 && tape.byteAt(from) == '.' && tape.byteAt(from + 1) == '.';
            return n > 0 && !isOneDot && !isTwoDots;
        }

        private int readLocal(int c, int first) {
            long told = tape.fourAt(c + 42);
            if (told + LOCAL_BYTES > first || !isLocalOf(c, (int) told)) {
                return faultAt(NO_LOCAL, c + 42);
            }
            int local = (int) told;
            int packedPlace = local + LOCAL_BYTES + tape.twoAt(c + 28) + tape.twoAt(local + 28);
            if (packedPlace + tape.fourAt(c + 20) > first) {
                return faultAt(NO_LOCAL, c + 42);
            }
            Entry entry = entries[count];
            keepNumbers(entry, c);
            entry.localPlace = local;
            entry.packedPlace = packedPlace;
            for (int i = 0; i < count; i++) {
                if (entry.liesOver(entries[i])) {
                    return faultAt(LIES_OVER, c + 42);
                }
            }
            return 0;
        }

        private boolean isLocalOf(int c, int local) {
            return tape.hasMarkAt(local, 3, 4)
                    && tape.isSame(local + 4, c + 6, 6)
                    && tape.isSame(local + 14, c + 16, 14)
                    && tape.isSame(local + LOCAL_BYTES, c + ENTRY_BYTES, tape.twoAt(c + 28));
        }

        private void keepNumbers(Entry entry, int c) {
            entry.method = tape.twoAt(c + 10);
            entry.sum = (int) tape.fourAt(c + 16);
            entry.packed = (int) tape.fourAt(c + 20);
            entry.size = tape.fourAt(c + 24);
            entry.forgetWhatIsWritten();
        }
    }

    /**
     * Where the bytes of entries are written, each take behind the one before. The largest budget
     * is all that can come out of one opening, so the row never has to be cleaned up.
     */
    private static final class Target {
        private static final int TOO_LARGE = -20;
        private static final int OVER_RATIO = -21;
        private static final int OVER_BUDGET = -22;
        private static final int ALWAYS_FREE = 16;

        /** The sum of each half byte, for the polynomial 0xedb88320. */
        private static final int[] HALF_BYTE_SUMS = {
            0x00000000, 0x1db71064, 0x3b6e20c8, 0x26d930ac,
            0x76dc4190, 0x6b6b51f4, 0x4db26158, 0x5005713c,
            0xedb88320, 0xf00f9344, 0xd6d6a3e8, 0xcb61b38c,
            0x9b64c2b0, 0x86d3d2d4, 0xa00ae278, 0xbdbdf21c
        };

        int budget;
        int ratio;
        int total;
        private final byte[] bytes;
        private int runningSum;

        Target() {
            bytes = new byte[MOST_BUDGET];
            budget = FIRST_BUDGET;
            ratio = FIRST_RATIO;
            total = 0;
            runningSum = -1;
        }

        void clear() {
            total = 0;
        }

        void begin(Entry entry) {
            entry.outPlace = total;
            entry.outLength = 0;
            runningSum = -1;
        }

        /** Writes one byte of the entry that was begun last: 0, or why it is refused. */
        int put(Entry entry, int b) {
            if (entry.outLength >= entry.size) {
                return TOO_LARGE;
            }
            if (entry.outLength >= (long) ratio * entry.packed + ALWAYS_FREE) {
                return OVER_RATIO;
            }
            if (total >= budget || total >= bytes.length) {
                return OVER_BUDGET;
            }
            bytes[total] = (byte) b;
            total++;
            entry.outLength++;
            int sum = runningSum ^ b;
            sum = sum >>> 4 ^ HALF_BYTE_SUMS[sum & 15];
            runningSum = sum >>> 4 ^ HALF_BYTE_SUMS[sum & 15];
            return 0;
        }

        int byteOf(Entry entry, int k) {
            int at = entry.outPlace + k;
            return at >= 0 && at < bytes.length ? bytes[at] & 255 : 0;
        }

        int sumSinceBegin() {
            return ~runningSum;
        }
    }

    /** Reads packed bytes as bits, of each byte from the lowest on. */
    private static final class BitReader {
        static final int NO_BITS = -30;

        private final byte[] bytes;
        private int at;
        private int behind;
        private int usedBits;

        BitReader(Tape tape) {
            bytes = tape.bytes;
        }

        void begin(int from, int n) {
            at = from;
            behind = from + n;
            usedBits = 0;
        }

        /** A number of up to 16 bits, or that they are not there. */
        int read(int n) {
            int value = 0;
            int got = 0;
            while (got < n) {
                if (at < 0 || at >= behind || at >= bytes.length) {
                    return NO_BITS;
                }
                int part = n - got < 8 - usedBits ? n - got : 8 - usedBits;
                int bits = (bytes[at] & 255) >> usedBits & (1 << part) - 1;
                value |= bits << got;
                got += part;
                usedBits += part;
                if (usedBits == 8) {
                    usedBits = 0;
                    at++;
                }
            }
            return value;
        }

        void skipToFullByte() {
            if (usedBits > 0) {
                usedBits = 0;
                at++;
            }
        }

        boolean hasWholeByteLeft() {
            return usedBits > 0 ? at + 1 < behind : at < behind;
        }
    }

    /** A set of codes, made of their lengths alone. */
    private static final class CodeSet {
        private static final int NO_CODE = -34;
        private static final int LONGEST = 15;

        private final int[] countOfLength;
        private final int[] nextOfLength;
        private final int[] symbols;
        private int codes;

        CodeSet(int mostSymbols) {
            countOfLength = new int[LONGEST + 1];
            nextOfLength = new int[LONGEST + 1];
            symbols = new int[mostSymbols];
            codes = 0;
        }

        /** Symbol k gets the length at from + k; 0 is no code. */
        void build(int[] lengths, int from, int n) {
            Arrays.fill(countOfLength, 0);
            for (int k = 0; k < n; k++) {
                countOfLength[lengths[from + k]]++;
            }
            codes = 0;
            for (int length = 1; length <= LONGEST; length++) {
                nextOfLength[length] = codes;
                codes += countOfLength[length];
            }
            for (int k = 0; k < n; k++) {
                int length = lengths[from + k];
                if (length > 0) {
                    symbols[nextOfLength[length]] = k;
                    nextOfLength[length]++;
                }
            }
        }

        boolean isFull() {
            int filled = 0;
            for (int length = 1; length <= LONGEST; length++) {
                filled += countOfLength[length] << LONGEST - length;
            }
            return filled == 1 << LONGEST;
        }

        boolean isRightForDistances() {
            return isFull() || codes == 0 || codes == 1 && countOfLength[1] == 1;
        }

        /** The symbol whose code comes next, or why there is none. */
        int nextSymbol(BitReader bits) {
            int code = 0;
            int firstOfLength = 0;
            int shorterCodes = 0;
            for (int length = 1; length <= LONGEST; length++) {
                int bit = bits.read(1);
                if (bit < 0) {
                    return bit;
                }
                code = code << 1 | bit;
                firstOfLength <<= 1;
                int rank = code - firstOfLength;
                if (rank < countOfLength[length]) {
                    return symbols[shorterCodes + rank];
                }
                firstOfLength += countOfLength[length];
                shorterCodes += countOfLength[length];
                if (shorterCodes >= codes) {
                    return NO_CODE;
                }
            }
            return NO_CODE;
        }
    }

    /** Takes entries out. */
    private static final class Unpacker {
        private static final int TOO_SHORT = -23;
        private static final int LEFT_OVER = -24;
        private static final int WRONG_SUM = -25;
        private static final int WRONG_STORED_LENGTH = -31;
        private static final int TOO_MANY_CODES = -32;
        private static final int WRONG_CODES = -33;
        private static final int NO_SUCH_SYMBOL = -35;
        private static final int TOO_FAR_BACK = -36;
        private static final int NO_SUCH_KIND = -37;

        private static final int STORED = 0;
        private static final int FIXED_CODES = 1;
        private static final int OWN_CODES = 2;
        private static final int END_OF_BLOCK = 256;
        private static final int FIXED_SYMBOLS = 288;
        private static final int FIXED_DISTANCES = 32;
        private static final int MOST_SYMBOLS = 286;
        private static final int MOST_DISTANCES = 30;
        private static final int LENGTH_CODES = 19;

        private static final int[] ORDER_OF_LENGTH_CODES = {
            16, 17, 18, 0, 8, 7, 9, 6, 10, 5, 11, 4, 12, 3, 13, 2, 14, 1, 15
        };
        private static final int[] LENGTHS = {
            3, 4, 5, 6, 7, 8, 9, 10, 11, 13, 15, 17, 19, 23, 27,
            31, 35, 43, 51, 59, 67, 83, 99, 115, 131, 163, 195, 227, 258
        };
        private static final int[] LENGTH_BITS = {
            0, 0, 0, 0, 0, 0, 0, 0, 1, 1, 1, 1, 2, 2, 2, 2, 3, 3, 3, 3, 4, 4, 4, 4, 5, 5, 5, 5, 0
        };
        private static final int[] DISTANCES = {
            1, 2, 3, 4, 5, 7, 9, 13, 17, 25, 33, 49, 65, 97, 129, 193, 257, 385, 513, 769,
            1025, 1537, 2049, 3073, 4097, 6145, 8193, 12289, 16385, 24577
        };
        private static final int[] DISTANCE_BITS = {
            0, 0, 0, 0, 1, 1, 2, 2, 3, 3, 4, 4, 5, 5, 6, 6, 7, 7, 8, 8,
            9, 9, 10, 10, 11, 11, 12, 12, 13, 13
        };

        private final Target target;
        private final BitReader bits;
        private final int[] row;
        private final CodeSet fixedSymbols;
        private final CodeSet fixedDistances;
        private final CodeSet lengthCodes;
        private final CodeSet ownSymbols;
        private final CodeSet ownDistances;

        Unpacker(Tape tape, Target target) {
            this.target = target;
            bits = new BitReader(tape);
            row = new int[FIXED_SYMBOLS + FIXED_DISTANCES];
            fixedSymbols = new CodeSet(FIXED_SYMBOLS);
            fixedDistances = new CodeSet(FIXED_DISTANCES);
            lengthCodes = new CodeSet(LENGTH_CODES);
            ownSymbols = new CodeSet(MOST_SYMBOLS);
            ownDistances = new CodeSet(MOST_DISTANCES);
            buildFixedCodes();
        }

        private void buildFixedCodes() {
            Arrays.fill(row, 0, 144, 8);
            Arrays.fill(row, 144, 256, 9);
            Arrays.fill(row, 256, 280, 7);
            Arrays.fill(row, 280, FIXED_SYMBOLS, 8);
            Arrays.fill(row, FIXED_SYMBOLS, FIXED_SYMBOLS + FIXED_DISTANCES, 5);
            fixedSymbols.build(row, 0, FIXED_SYMBOLS);
            fixedDistances.build(row, FIXED_SYMBOLS, FIXED_DISTANCES);
        }

        /** 0, or why the entry is refused. */
        int takeOut(Entry entry) {
            if (entry.isFolder) {
                entry.state = Entry.WHOLE;
                return 0;
            }
            target.begin(entry);
            bits.begin(entry.packedPlace, entry.packed);
            int refusal = entry.method == 0 ? copyBytes(entry, entry.packed) : unpack(entry);
            if (refusal == 0) {
                refusal = checkWhole(entry);
            }
            entry.state = refusal == 0 ? Entry.WHOLE : Entry.PART;
            return refusal;
        }

        private int checkWhole(Entry entry) {
            if (entry.outLength < entry.size) {
                return TOO_SHORT;
            }
            if (bits.hasWholeByteLeft()) {
                return LEFT_OVER;
            }
            return target.sumSinceBegin() == entry.sum ? 0 : WRONG_SUM;
        }

        private int copyBytes(Entry entry, int n) {
            for (int k = 0; k < n; k++) {
                int b = bits.read(8);
                int refusal = b < 0 ? b : target.put(entry, b);
                if (refusal < 0) {
                    return refusal;
                }
            }
            return 0;
        }

        /** A block takes three bits at least, so there are fewer blocks than bits. */
        private int unpack(Entry entry) {
            for (int block = 0; block <= entry.packed * 8; block++) {
                int head = bits.read(3);
                if (head < 0) {
                    return head;
                }
                int refusal = 0;
                switch (head >> 1) {
                    case STORED:
                        refusal = unpackStored(entry);
                        break;
                    case FIXED_CODES:
                        refusal = unpackCoded(entry, fixedSymbols, fixedDistances);
                        break;
                    case OWN_CODES:
                        refusal = readOwnCodes();
                        if (refusal == 0) {
                            refusal = unpackCoded(entry, ownSymbols, ownDistances);
                        }
                        break;
                    default:
                        refusal = NO_SUCH_KIND;
                }
                boolean isLast = (head & 1) == 1;
                if (refusal < 0 || isLast) {
                    return refusal;
                }
            }
            return BitReader.NO_BITS;
        }

        private int unpackStored(Entry entry) {
            bits.skipToFullByte();
            int n = bits.read(16);
            int turned = bits.read(16);
            if (n < 0 || turned < 0) {
                return BitReader.NO_BITS;
            }
            return (n ^ turned) == 0xffff ? copyBytes(entry, n) : WRONG_STORED_LENGTH;
        }

        private int readOwnCodes() {
            int head = bits.read(14);
            if (head < 0) {
                return head;
            }
            int symbols = 257 + (head & 31);
            int distances = 1 + (head >> 5 & 31);
            if (symbols > MOST_SYMBOLS || distances > MOST_DISTANCES) {
                return TOO_MANY_CODES;
            }
            int refusal = readLengthCodes(4 + (head >> 10));
            if (refusal == 0) {
                refusal = readRow(symbols + distances);
            }
            if (refusal < 0) {
                return refusal;
            }
            ownSymbols.build(row, 0, symbols);
            ownDistances.build(row, symbols, distances);
            boolean isRight = row[END_OF_BLOCK] > 0 && ownSymbols.isFull()
                    && ownDistances.isRightForDistances();
            return isRight ? 0 : WRONG_CODES;
        }

        private int readLengthCodes(int n) {
            Arrays.fill(row, 0, LENGTH_CODES, 0);
            for (int k = 0; k < n && k < LENGTH_CODES; k++) {
                int length = bits.read(3);
                if (length < 0) {
                    return length;
                }
                row[ORDER_OF_LENGTH_CODES[k]] = length;
            }
            lengthCodes.build(row, 0, LENGTH_CODES);
            return lengthCodes.isFull() ? 0 : WRONG_CODES;
        }

        /** Further bits are read before the row is looked at: missing ones are told first. */
        private int readRow(int n) {
            int filled = 0;
            while (filled < n) {
                int symbol = lengthCodes.nextSymbol(bits);
                if (symbol < 0) {
                    return symbol;
                }
                int more = bits.read(repeatBits(symbol));
                if (more < 0) {
                    return more;
                }
                int times = leastTimes(symbol) + more;
                if (symbol == 16 && filled == 0 || filled + times > n) {
                    return WRONG_CODES;
                }
                int length = symbol < 16 ? symbol : symbol == 16 ? row[filled - 1] : 0;
                Arrays.fill(row, filled, filled + times, length);
                filled += times;
            }
            return 0;
        }

        private int repeatBits(int symbol) {
            switch (symbol) {
                case 16:
                    return 2;
                case 17:
                    return 3;
                case 18:
                    return 7;
                default:
                    return 0;
            }
        }

        private int leastTimes(int symbol) {
            return symbol < 16 ? 1 : symbol < 18 ? 3 : 11;
        }

        /** A symbol takes one bit at least, so there are no more symbols than bits. */
        private int unpackCoded(Entry entry, CodeSet symbols, CodeSet distances) {
            for (int round = 0; round <= entry.packed * 8; round++) {
                int symbol = symbols.nextSymbol(bits);
                if (symbol < 0) {
                    return symbol;
                }
                if (symbol == END_OF_BLOCK) {
                    return 0;
                }
                int refusal = symbol < END_OF_BLOCK
                        ? target.put(entry, symbol) : unpackAgain(entry, symbol, distances);
                if (refusal < 0) {
                    return refusal;
                }
            }
            return BitReader.NO_BITS;
        }

        private int unpackAgain(Entry entry, int symbol, CodeSet distances) {
            int step = symbol - END_OF_BLOCK - 1;
            if (step < 0 || step >= LENGTHS.length) {
                return NO_SUCH_SYMBOL;
            }
            int longer = bits.read(LENGTH_BITS[step]);
            if (longer < 0) {
                return longer;
            }
            int back = distances.nextSymbol(bits);
            if (back < 0) {
                return back;
            }
            if (back >= DISTANCES.length) {
                return NO_SUCH_SYMBOL;
            }
            int farther = bits.read(DISTANCE_BITS[back]);
            if (farther < 0) {
                return farther;
            }
            return writeAgain(entry, LENGTHS[step] + longer, DISTANCES[back] + farther);
        }

        private int writeAgain(Entry entry, int length, int distance) {
            if (distance > entry.outLength) {
                return TOO_FAR_BACK;
            }
            for (int k = 0; k < length; k++) {
                int b = target.byteOf(entry, entry.outLength - distance);
                int refusal = target.put(entry, b);
                if (refusal < 0) {
                    return refusal;
                }
            }
            return 0;
        }
    }
}
