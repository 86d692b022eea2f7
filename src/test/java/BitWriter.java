import java.io.ByteArrayOutputStream;

/** Writes packed bytes bit by bit, as the public rules tell. */
final class BitWriter {
    private final ByteArrayOutputStream out = new ByteArrayOutputStream();
    private int current = 0;
    private int used = 0;

    /** A number: its lowest bit first. */
    BitWriter put(int value, int n) {
        for (int k = 0; k < n; k++) {
            bit(value >> k & 1);
        }
        return this;
    }

    /** A code: its highest bit first. */
    BitWriter code(int value, int n) {
        for (int k = n - 1; k >= 0; k--) {
            bit(value >> k & 1);
        }
        return this;
    }

    private void bit(int b) {
        current |= b << used;
        used++;
        if (used == 8) {
            out.write(current);
            current = 0;
            used = 0;
        }
    }

    BitWriter head(boolean isLast, int kind) {
        return put(isLast ? 1 : 0, 1).put(kind, 2);
    }

    /** A symbol by the codes of kind 1. */
    BitWriter fixed(int symbol) {
        if (symbol < 144) {
            return code(0x30 + symbol, 8);
        }
        if (symbol < 256) {
            return code(0x190 + symbol - 144, 9);
        }
        return symbol < 280 ? code(symbol - 256, 7) : code(0xc0 + symbol - 280, 8);
    }

    BitWriter fixedText(String text) {
        for (int k = 0; k < text.length(); k++) {
            fixed(text.charAt(k));
        }
        return this;
    }

    BitWriter toFullByte() {
        while (used != 0) {
            bit(0);
        }
        return this;
    }

    /** The counts of kind 2, and three bits for each of the 19 symbols of the code for lengths. */
    BitWriter ownCodes(int symbols, int distances, int... lengthsOf0To18) {
        int[] order = {16, 17, 18, 0, 8, 7, 9, 6, 10, 5, 11, 4, 12, 3, 13, 2, 14, 1, 15};
        put(symbols - 257, 5).put(distances - 1, 5).put(15, 4);
        for (int symbol : order) {
            put(symbol < lengthsOf0To18.length ? lengthsOf0To18[symbol] : 0, 3);
        }
        return this;
    }

    /** A symbol by the codes that these lengths make. */
    BitWriter symbol(int[] lengths, int symbol) {
        int code = 0;
        for (int length = 1; length <= lengths[symbol]; length++) {
            code <<= 1;
            for (int other = 0; other < lengths.length; other++) {
                boolean comesBefore = length < lengths[symbol] || other < symbol;
                if (lengths[other] == length && comesBefore) {
                    code++;
                }
            }
        }
        return code(code, lengths[symbol]);
    }

    int bits() {
        return out.size() * 8 + used;
    }

    byte[] bytes() {
        toFullByte();
        return out.toByteArray();
    }
}
