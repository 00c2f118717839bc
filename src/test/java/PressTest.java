import java.util.Random;
import java.util.zip.DataFormatException;
import java.util.zip.Inflater;

/** Promises 12, 15. */
public final class PressTest {
    public static void main(String[] args) throws DataFormatException {
        known();
        limits();
        lengths();
        random();
        Kit.end();
    }

    private static void due(String what, byte[] row) throws DataFormatException {
        byte[] want = PressOracle.press(row);
        Run book = new Book();
        Kit.due(what + ", size", Kit.press(book, row), want.length);
        Kit.due(what + ", tape", book.again(0), 0);
        byte[] got = Kit.out(book, want.length);
        Kit.due(what, got, want);
        byte[] back = new byte[row.length + 1];
        Inflater inflater = new Inflater(true);
        inflater.setInput(got);
        Kit.due(what + ", inflated", inflater.inflate(back), row.length);
        inflater.end();
        Kit.due(what + ", inflated", java.util.Arrays.copyOf(back, row.length), row);
        // More can't be typed by 512 calls with some left.
        if (got.length <= 500 * 8) {
            Run other = new Book();
            Kit.due(what + ", expanded", Kit.expand(other, got), row.length);
            Kit.due(what + ", expanded", Kit.out(other, row.length), row);
        }
    }

    private static void known() throws DataFormatException {
        Run book = new Run();
        Kit.due("nothing", book.press(), 2);
        Kit.due("nothing", Kit.out(book, 2), new byte[] {3, 0});
        Kit.dueThrow("out(-1)", Kit.INDEX, () -> book.out(-1));
        Kit.due("abc again", Kit.press(book, Kit.bytes("abcabcabcabcabcabc")), 6);
        Kit.due("abc again", Kit.out(book, 6), new byte[] {75, 76, 74, 70, 67, 0});
        due("two alike are not enough", Kit.bytes("ab ab"));
        due("three alike", Kit.bytes("abcxabc"));
        due("nearest", Kit.bytes("abcd-abce-abcf-abc"));
        due("longest, though further", Kit.bytes("abcdef-abcx-abcdeg"));
        due("to the very end", Kit.bytes("abcdabcd"));
        due("the last two", Kit.bytes("ababab"));
        // The row at a place may go on into what it makes.
        due("over itself", Kit.filled("a", 20));
        // At each place the longest one is taken, though one more byte would lead to a longer one.
        due("no looking ahead", Kit.bytes("abc bcdefg abcdefg"));
    }

    private static void limits() throws DataFormatException {
        Run book = new Run();
        Kit.press(book, Kit.bytes("stays"));
        byte[] before = Kit.out(book, 7);
        Kit.type(book, Kit.filled("ab", 4001));
        Kit.dueThrow("4001", Kit.UNSUPPORTED, () -> book.press());
        Kit.due("tape taken", book.again(0), 0);
        Kit.due("stays", Kit.out(book, 7), before);
        due("4000", Kit.filled("ab", 4000));
        // No three bytes come again, and each has nine bits.
        byte[] high = new byte[4000];
        for (int k = 0; k < high.length; k += 2) {
            high[k] = (byte) (144 + 23 + k / 2 % 89);
            high[k + 1] = (byte) (144 + k / 2 / 89);
        }
        due("nine bits each", high);
        Kit.due("the most that can come out", Kit.press(new Run(), high), 4502);
        // What comes out of press is not changed by what write presses.
        Kit.press(book, Kit.bytes("stays"));
        Kit.add(book, "a", Kit.filled("abc", 100));
        book.write();
        book.reread(0, 0);
        Kit.due("write leaves it", Kit.out(book, 7), before);
    }

    private static void lengths() throws DataFormatException {
        for (int n = 1; n < 530; n += n < 20 || n > 250 && n < 265 || n > 510 ? 1 : 7) {
            due("as long as " + n, Kit.filled("q", n));
        }
        for (int d = 1; d < 3990; d += 1 + d / 5) {
            byte[] row = Kit.join(Kit.bytes("xyz"), Kit.filled("-", d), Kit.bytes("xyz"));
            due("from " + d, row);
        }
        due("from far", Kit.join(Kit.bytes("xyz"), Kit.filled("-", 3994), Kit.bytes("xyz")));
    }

    private static void random() throws DataFormatException {
        Random random = new Random(12);
        for (int round = 0; round < 300; round++) {
            byte[] row = new byte[random.nextInt(round % 10 == 0 ? 2500 : 300)];
            int letters = 1 + random.nextInt(round % 3 == 0 ? 256 : 4);
            for (int k = 0; k < row.length; k++) {
                row[k] = (byte) random.nextInt(letters);
            }
            due("round " + round, row);
        }
    }
}
