import java.io.ByteArrayOutputStream;
import java.nio.charset.StandardCharsets;
import java.util.ArrayList;
import java.util.List;
import java.util.zip.CRC32;

/** Builds archives byte by byte, and remembers where each part lies so that tests can break it. */
final class Archive {
    private static final class Item {
        byte[] nameBytes;
        int method;
        byte[] packed;
        long size;
        int sum;
        byte[] localExtra = new byte[0];
        byte[] extra = new byte[0];
        byte[] comment = new byte[0];
        int localPlace;
        int entryPlace;
    }

    private final List<Item> items = new ArrayList<>();
    private byte[] endComment = new byte[0];
    private byte[] gap = new byte[0];
    private int endPlace;

    static byte[] bytesOf(String text) {
        return text.getBytes(StandardCharsets.ISO_8859_1);
    }

    static int sumOf(byte[] bytes) {
        CRC32 sum = new CRC32();
        sum.update(bytes);
        return (int) sum.getValue();
    }

    Archive store(String name, String content) {
        return store(name, bytesOf(content));
    }

    Archive store(String name, byte[] content) {
        return add(name, 0, content, content.length, sumOf(content));
    }

    Archive folder(String name) {
        return store(name, "");
    }

    /** A packed entry whose bytes, once unpacked, should be the content. */
    Archive packed(String name, byte[] packed, byte[] content) {
        return add(name, 8, packed, content.length, sumOf(content));
    }

    Archive add(String name, int method, byte[] packed, long size, int sum) {
        Item item = new Item();
        item.nameBytes = bytesOf(name);
        item.method = method;
        item.packed = packed;
        item.size = size;
        item.sum = sum;
        items.add(item);
        return this;
    }

    /** Extras and a comment for the item that was added last. */
    Archive with(String localExtra, String extra, String comment) {
        Item item = items.get(items.size() - 1);
        item.localExtra = bytesOf(localExtra);
        item.extra = bytesOf(extra);
        item.comment = bytesOf(comment);
        return this;
    }

    Archive endComment(byte[] comment) {
        endComment = comment;
        return this;
    }

    /** Bytes between the last local entry and the first entry. */
    Archive gap(int n) {
        gap = new byte[n];
        return this;
    }

    byte[] bytes() {
        ByteArrayOutputStream out = new ByteArrayOutputStream();
        for (Item item : items) {
            writeLocal(out, item);
        }
        out.writeBytes(gap);
        int first = out.size();
        for (Item item : items) {
            writeEntry(out, item);
        }
        endPlace = out.size();
        out.writeBytes(new byte[] {80, 75, 5, 6, 0, 0, 0, 0});
        two(out, items.size());
        two(out, items.size());
        four(out, endPlace - first);
        four(out, first);
        two(out, endComment.length);
        out.writeBytes(endComment);
        return out.toByteArray();
    }

    private static void writeLocal(ByteArrayOutputStream out, Item item) {
        item.localPlace = out.size();
        out.writeBytes(new byte[] {80, 75, 3, 4, 20, 0, 0, 0});
        two(out, item.method);
        four(out, 0x12345678);
        writeNumbers(out, item);
        two(out, item.localExtra.length);
        out.writeBytes(item.nameBytes);
        out.writeBytes(item.localExtra);
        out.writeBytes(item.packed);
    }

    private static void writeEntry(ByteArrayOutputStream out, Item item) {
        item.entryPlace = out.size();
        out.writeBytes(new byte[] {80, 75, 1, 2, 63, 3, 20, 0, 0, 0});
        two(out, item.method);
        four(out, 0x42424242);
        writeNumbers(out, item);
        two(out, item.extra.length);
        two(out, item.comment.length);
        two(out, 0);
        two(out, 0x1111);
        four(out, 0x22222222);
        four(out, item.localPlace);
        out.writeBytes(item.nameBytes);
        out.writeBytes(item.extra);
        out.writeBytes(item.comment);
    }

    private static void writeNumbers(ByteArrayOutputStream out, Item item) {
        four(out, item.sum);
        four(out, item.packed.length);
        four(out, item.size);
        two(out, item.nameBytes.length);
    }

    private static void two(ByteArrayOutputStream out, int number) {
        out.write(number);
        out.write(number >> 8);
    }

    private static void four(ByteArrayOutputStream out, long number) {
        two(out, (int) number);
        two(out, (int) (number >> 16));
    }

    int endPlace() {
        return endPlace;
    }

    int entryPlace(int i) {
        return items.get(i).entryPlace;
    }

    int localPlace(int i) {
        return items.get(i).localPlace;
    }

    int packedPlace(int i) {
        Item item = items.get(i);
        return item.localPlace + 30 + item.nameBytes.length + item.localExtra.length;
    }

    static ZipGuard load(byte[] tape) {
        ZipGuard guard = new ZipGuard();
        feedAll(guard, tape);
        return guard;
    }

    static void feedAll(ZipGuard guard, byte[] tape) {
        for (int i = 0; i < tape.length; i += 20) {
            guard.feed(number(tape, i), number(tape, i + 4), number(tape, i + 8),
                    number(tape, i + 12), number(tape, i + 16));
        }
        guard.end(tape.length);
    }

    static int number(byte[] tape, int i) {
        int number = 0;
        for (int k = 0; k < 4; k++) {
            number = number << 8 | (i + k < tape.length ? tape[i + k] & 255 : 0);
        }
        return number;
    }

    static void patch(byte[] tape, int i, int... values) {
        for (int k = 0; k < values.length; k++) {
            tape[i + k] = (byte) values[k];
        }
    }

    static void patchTwo(byte[] tape, int i, int number) {
        patch(tape, i, number, number >> 8);
    }

    static void patchFour(byte[] tape, int i, long number) {
        patch(tape, i, (int) number, (int) (number >> 8), (int) (number >> 16), (int) (number >> 24));
    }
}
