import java.io.ByteArrayInputStream;
import java.io.ByteArrayOutputStream;
import java.io.IOException;
import java.util.Arrays;
import java.util.Random;
import java.util.zip.Deflater;
import java.util.zip.ZipEntry;
import java.util.zip.ZipInputStream;
import java.util.zip.ZipOutputStream;

/** Promises 5 and 8 to 11 against java.util.zip: whole archives, made by one and read by the other. */
public final class ZipLibraryTest {
    private static final Random RANDOM = new Random(8);
    private static final String[] NAMES = {"a.txt", "d/", "d/b", "d/e/", "d/e/c.bin", "f", "g/h/i"};

    public static void main(String[] args) throws IOException {
        for (int round = 0; round < 200; round++) {
            byte[][] contents = contents();
            opensTheLibrarys(contents);
            refusesDescriptors(contents);
            libraryReadsOurs(contents);
        }
        Checks.finish("ZipLibraryTest");
    }

    private static byte[][] contents() {
        byte[][] contents = new byte[NAMES.length][];
        for (int i = 0; i < NAMES.length; i++) {
            boolean isFolder = NAMES[i].endsWith("/");
            contents[i] = new byte[isFolder ? 0 : RANDOM.nextInt(500)];
            for (int k = 0; k < contents[i].length; k++) {
                contents[i][k] = (byte) (RANDOM.nextInt(4) * 77);
            }
        }
        return contents;
    }

    private static byte[] libraryArchive(byte[][] contents, int method) throws IOException {
        ByteArrayOutputStream out = new ByteArrayOutputStream();
        try (ZipOutputStream zip = new ZipOutputStream(out)) {
            zip.setComment("made by the library");
            for (int i = 0; i < NAMES.length; i++) {
                ZipEntry entry = new ZipEntry(NAMES[i]);
                entry.setMethod(method);
                entry.setComment("number " + i);
                if (method == ZipEntry.STORED) {
                    entry.setSize(contents[i].length);
                    entry.setCrc(Archive.sumOf(contents[i]) & 0xffffffffL);
                }
                zip.putNextEntry(entry);
                zip.write(contents[i]);
                zip.closeEntry();
            }
        }
        return out.toByteArray();
    }

    private static void opensTheLibrarys(byte[][] contents) throws IOException {
        ZipGuard x = Archive.load(libraryArchive(contents, ZipEntry.STORED));
        Checks.due("open()", x.open(), NAMES.length);
        Checks.due("place()", x.place(), ZipGuard.NONE);
        Checks.due("takeAll()", x.takeAll(), NAMES.length);
        allDue(x, contents);
    }

    private static void allDue(ZipGuard x, byte[][] contents) {
        for (int i = 0; i < NAMES.length; i++) {
            String entry = "entry " + i;
            Checks.due(entry + " is a folder", x.entry(i, 4), NAMES[i].endsWith("/") ? 1 : 0);
            Checks.due(entry + " is whole", x.entry(i, 5), 1);
            byte[] name = new byte[x.entry(i, 7)];
            for (int k = 0; k < name.length; k++) {
                name[k] = (byte) x.name(i, k);
            }
            Checks.due(entry + " has the name", new String(name), NAMES[i]);
            byte[] written = new byte[x.entry(i, 6)];
            for (int k = 0; k < written.length; k++) {
                written[k] = (byte) x.written(i, k);
            }
            Checks.due(entry + " has its bytes", Arrays.equals(written, contents[i]) ? 1 : 0, 1);
        }
    }

    /** The library tells sizes behind the packed bytes there, with bit 3, which is none of 1, 2, 11. */
    private static void refusesDescriptors(byte[][] contents) throws IOException {
        byte[] archive = libraryArchive(contents, ZipEntry.DEFLATED);
        ZipGuard x = Archive.load(archive);
        int end = archive.length - 22 - "made by the library".length();
        int first = archive[end + 16] & 255 | (archive[end + 17] & 255) << 8;
        Checks.due("open() with bit 3", x.open(), -6);
        Checks.due("place() with bit 3", x.place(), first + 8);
    }

    /** So that the tests' own archives follow the public rules too. */
    private static void libraryReadsOurs(byte[][] contents) throws IOException {
        Archive archive = new Archive();
        for (int i = 0; i < NAMES.length; i++) {
            if (contents[i].length > 0 && RANDOM.nextBoolean()) {
                archive.packed(NAMES[i], pack(contents[i]), contents[i]);
            } else {
                archive.store(NAMES[i], contents[i]);
            }
        }
        byte[] bytes = archive.bytes();
        try (ZipInputStream zip = new ZipInputStream(new ByteArrayInputStream(bytes))) {
            for (int i = 0; i < NAMES.length; i++) {
                Checks.due("the library's name", zip.getNextEntry().getName(), NAMES[i]);
                Checks.due("the library's bytes", Arrays.equals(zip.readAllBytes(), contents[i]) ? 1 : 0, 1);
            }
            Checks.due("the library's end", zip.getNextEntry() == null ? 1 : 0, 1);
        }
        ZipGuard x = Archive.load(bytes);
        Checks.due("open()", x.open(), NAMES.length);
        Checks.due("takeAll()", x.takeAll(), NAMES.length);
        allDue(x, contents);
    }

    private static byte[] pack(byte[] content) {
        Deflater deflater = new Deflater(Deflater.BEST_COMPRESSION, true);
        deflater.setInput(content);
        deflater.finish();
        byte[] packed = new byte[2 * content.length + 100];
        int n = deflater.deflate(packed);
        deflater.end();
        return Arrays.copyOf(packed, n);
    }
}
