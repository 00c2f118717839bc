import java.io.ByteArrayOutputStream;
import java.nio.charset.StandardCharsets;
import java.util.zip.Deflater;

/** What the tests share: typing rows of bytes, comparing answers, and the exit code. */
final class Kit {
    static final Class<?> ARGUMENT = IllegalArgumentException.class;
    static final Class<?> INDEX = IndexOutOfBoundsException.class;
    static final Class<?> UNSUPPORTED = UnsupportedOperationException.class;

    private static int wrong = 0;

    private Kit() {
    }

    interface Call {
        void run();
    }

    private static void tell(String text) {
        wrong++;
        if (wrong <= 50) {
            System.out.println(text);
        }
    }

    static void due(String what, long got, long want) {
        if (got != want) {
            tell(what + ": answered " + got + ", due is " + want);
        }
    }

    static void due(String what, boolean got, boolean want) {
        due(what, got ? 1 : 0, want ? 1 : 0);
    }

    static void due(String what, byte[] got, byte[] want) {
        due(what + ", size", got.length, want.length);
        for (int k = 0; k < Math.min(got.length, want.length); k++) {
            due(what + ", byte " + k, got[k] & 255, want[k] & 255);
        }
    }

    static void due(String what, String got, String want) {
        if (!got.equals(want)) {
            tell(what + ": is '" + got + "', due is '" + want + "'");
        }
    }

    static void dueThrow(String what, Class<?> want, Call call) {
        Class<?> got = null;
        try {
            call.run();
        } catch (RuntimeException e) {
            got = e.getClass();
        }
        if (got != want) {
            tell(what + ": threw " + got + ", due is " + want);
        }
    }

    static void end() {
        System.out.println(wrong == 0 ? "all answers are as due" : wrong + " answers are wrong");
        System.exit(wrong == 0 ? 0 : 1);
    }

    static byte[] bytes(String text) {
        return text.getBytes(StandardCharsets.ISO_8859_1);
    }

    static String text(byte[] row) {
        return new String(row, StandardCharsets.ISO_8859_1);
    }

    static byte[] join(byte[]... rows) {
        ByteArrayOutputStream all = new ByteArrayOutputStream();
        for (byte[] row : rows) {
            all.writeBytes(row);
        }
        return all.toByteArray();
    }

    /** So many bytes, each of the text in turn. */
    static byte[] filled(String text, int n) {
        byte[] row = new byte[n];
        for (int k = 0; k < n; k++) {
            row[k] = (byte) text.charAt(k % text.length());
        }
        return row;
    }

    /** A stream of these bytes that is not made by the program. */
    static byte[] deflate(byte[] row, int level, int strategy) {
        Deflater deflater = new Deflater(level, true);
        deflater.setStrategy(strategy);
        deflater.setInput(row);
        deflater.finish();
        byte[] all = new byte[9000];
        int n = 0;
        while (!deflater.finished()) {
            n += deflater.deflate(all, n, all.length - n);
        }
        deflater.end();
        return java.util.Arrays.copyOf(all, n);
    }

    static void type(Run book, byte[] row) {
        book.tape(row);
    }

    static int add(Run book, String name, byte[] content) {
        type(book, join(bytes(name), content));
        return book.add(name.length());
    }

    static int add(Run book, String name, String content) {
        return add(book, name, bytes(content));
    }

    static boolean remove(Run book, String name) {
        type(book, bytes(name));
        return book.remove();
    }

    static int expand(Run book, byte[] stream) {
        type(book, stream);
        return book.expand();
    }

    static int press(Run book, byte[] row) {
        type(book, row);
        return book.press();
    }

    static int read(Run book, byte[] file) {
        type(book, file);
        return book.read();
    }

    /** What came out last, of which there must be n bytes. */
    static byte[] out(Run book, int n) {
        byte[] row = new byte[n];
        for (int k = 0; k < n; k++) {
            row[k] = (byte) book.out(k);
        }
        dueThrow("out(" + n + ")", INDEX, () -> book.out(n));
        return row;
    }

    static byte[] written(Run book) {
        int n = book.write();
        byte[] row = new byte[n];
        for (int k = 0; k < n; k++) {
            row[k] = (byte) book.file(k);
        }
        dueThrow("file(" + n + ")", INDEX, () -> book.file(n));
        return row;
    }

    static byte[] nameOf(Run book, int i) {
        byte[] row = new byte[book.about(1, i)];
        for (int k = 0; k < row.length; k++) {
            row[k] = (byte) book.byteOf(i, k);
        }
        return row;
    }

    static byte[] contentOf(Run book, int i) {
        byte[] row = new byte[book.about(2, i)];
        int from = book.about(1, i);
        for (int k = 0; k < row.length; k++) {
            row[k] = (byte) book.byteOf(i, from + k);
        }
        return row;
    }

    static void dueParts(String what, Run book, String... names) {
        due(what + ", parts", book.about(0, -7), names.length);
        for (int i = 0; i < Math.min(names.length, book.about(0, 0)); i++) {
            due(what + ", name " + i, nameOf(book, i), bytes(names[i]));
        }
    }
}
