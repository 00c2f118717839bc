/** Promises 1, 2, 3, 14. */
public final class TapeTest {
    public static void main(String[] args) {
        newObject();
        typing();
        again();
        fullTape();
        sums();
        Kit.end();
    }

    private static void newObject() {
        Run book = new Run();
        Kit.due("no parts", book.about(0, 0), 0);
        Kit.due("no bytes", book.about(3, 0), 0);
        Kit.dueThrow("no part", Kit.INDEX, () -> book.about(1, 0));
        Kit.dueThrow("no file", Kit.INDEX, () -> book.file(0));
        Kit.dueThrow("nothing came out", Kit.INDEX, () -> book.out(0));
        Kit.dueThrow("no file to read", Kit.INDEX, () -> book.reread(0, 256));
        Kit.dueThrow("no fault", Kit.INDEX, () -> book.fault(0, 0));
        Kit.due("tape", book.again(0), 0);
        Kit.due("sum of the tape", book.sum(), 0);
        Kit.due("tape is no file", book.read(), 1);
        Kit.due("file without parts", book.write(), 22);
        Kit.due("nothing to check", book.check(), 0);
    }

    private static void typing() {
        Run book = new Run();
        Kit.due("one", book.type(0x1122334455667788L, 1), 1);
        Kit.due("eight", book.type(-2L, 8), 9);
        Kit.dueThrow("none", Kit.ARGUMENT, () -> book.type(0, 0));
        Kit.dueThrow("nine", Kit.ARGUMENT, () -> book.type(0, 9));
        Kit.dueThrow("negative", Kit.ARGUMENT, () -> book.type(0, Integer.MIN_VALUE));
        Kit.due("three", book.type(0x030201, 3), 12);
        // Stored as one block, the typed bytes come out as they are.
        book.sum();
        Kit.type(book, new byte[] {1, 12, 0, (byte) 243, (byte) 255});
        book.type(0x1122334455667788L, 1);
        book.type(-2L, 8);
        book.type(0x030201, 3);
        Kit.due("expanded", book.expand(), 12);
        int[] want = {0x88, 254, 255, 255, 255, 255, 255, 255, 255, 1, 2, 3};
        for (int k = 0; k < want.length; k++) {
            Kit.due("byte " + k, book.out(k), want[k]);
        }
    }

    private static void again() {
        Run book = new Run();
        Kit.dueThrow("empty tape", Kit.ARGUMENT, () -> book.again(1));
        Kit.type(book, Kit.bytes("abc"));
        Kit.due("nothing", book.again(0), 3);
        Kit.due("two", book.again(2), 5);
        Kit.dueThrow("too many", Kit.ARGUMENT, () -> book.again(6));
        Kit.dueThrow("negative", Kit.ARGUMENT, () -> book.again(-1));
        Kit.dueThrow("lowest", Kit.ARGUMENT, () -> book.again(Integer.MIN_VALUE));
        Kit.dueThrow("highest", Kit.ARGUMENT, () -> book.again(Integer.MAX_VALUE));
        Kit.due("all", book.again(5), 10);
        Kit.due("added", book.add(10), 1);
        Kit.dueParts("again", book, "abcbcabcbc");
    }

    private static void fullTape() {
        Run book = new Run();
        Kit.type(book, Kit.bytes("12345678"));
        for (int n = 8; n < 4096; n *= 2) {
            book.again(n);
        }
        Kit.dueThrow("8192", Kit.UNSUPPORTED, () -> book.again(4096));
        Kit.due("7999", book.again(3903), 7999);
        Kit.dueThrow("8001 by type", Kit.UNSUPPORTED, () -> book.type(0, 2));
        Kit.dueThrow("8001 by again", Kit.UNSUPPORTED, () -> book.again(2));
        Kit.dueThrow("wrong n first", Kit.ARGUMENT, () -> book.type(0, 9));
        Kit.dueThrow("wrong n first, again", Kit.ARGUMENT, () -> book.again(8001));
        Kit.due("8000", book.type(0, 1), 8000);
        Kit.due("nothing more", book.again(0), 8000);
        Kit.dueThrow("full", Kit.UNSUPPORTED, () -> book.type(0, 1));
        Kit.dueThrow("too many to press", Kit.UNSUPPORTED, () -> book.press());
        Kit.due("taken", book.again(0), 0);
    }

    private static void sums() {
        Run known = new Run();
        Kit.type(known, Kit.bytes("123456789"));
        Kit.due("known", known.sum(), 0xCBF43926);
        Kit.due("taken", known.again(0), 0);
        java.util.Random random = new java.util.Random(14);
        for (int n : new int[] {1, 2, 255, 4000}) {
            byte[] row = new byte[n];
            random.nextBytes(row);
            dueSum(row);
            dueSum(Kit.join(row, row));
        }
    }

    private static void dueSum(byte[] row) {
        java.util.zip.CRC32 crc = new java.util.zip.CRC32();
        crc.update(row);
        Run book = new Run();
        Kit.type(book, row);
        Kit.due("sum of " + row.length, book.sum(), (int) crc.getValue());
    }
}
