/** All that an object tells, as a text: two texts that are the same mean that nothing changed. */
final class Snapshot {
    private Snapshot() {
    }

    static String of(ZipGuard x) {
        StringBuilder text = new StringBuilder();
        for (int what = 0; what < 5; what++) {
            text.append(x.about(what)).append(' ');
        }
        text.append("place ").append(x.place()).append(isOpen(x) ? " open" : " shut");
        for (int i = 0; i < x.about(1); i++) {
            addEntry(text.append("; "), x, i);
        }
        return text.append("; tape ").append(tapeOf(x)).toString();
    }

    static boolean isOpen(ZipGuard x) {
        try {
            x.name(0, 0);
            return true;
        } catch (IndexOutOfBoundsException e) {
            return true;
        } catch (IllegalStateException e) {
            return false;
        }
    }

    private static void addEntry(StringBuilder text, ZipGuard x, int i) {
        for (int what = 0; what < 8; what++) {
            text.append(x.entry(i, what)).append(' ');
        }
        text.append(nameOf(x, i)).append(' ').append(writtenOf(x, i));
    }

    static String nameOf(ZipGuard x, int i) {
        StringBuilder text = new StringBuilder();
        for (int k = 0; k < x.entry(i, 7); k++) {
            text.append((char) x.name(i, k));
        }
        return text.toString();
    }

    static String writtenOf(ZipGuard x, int i) {
        StringBuilder text = new StringBuilder();
        for (int k = 0; k < x.entry(i, 6); k++) {
            text.append((char) x.written(i, k));
        }
        return text.toString();
    }

    /** A byte is read by altering it, and altered back. */
    static String tapeOf(ZipGuard x) {
        StringBuilder text = new StringBuilder();
        for (int i = 0; i < x.about(0); i++) {
            int b = x.alter(i, 0);
            x.alter(i, b);
            text.append((char) b);
        }
        return text.toString();
    }
}
