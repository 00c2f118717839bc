import java.io.ByteArrayInputStream;
import java.io.IOException;
import java.util.Random;
import java.util.TreeMap;
import java.util.zip.Deflater;
import java.util.zip.ZipEntry;
import java.util.zip.ZipInputStream;

/** Promises 8, 9. */
public final class FileTest {
    // By less than 512 calls, so that others are left.
    private static final int MOST_TYPED = 500 * 8;

    public static void main(String[] args) throws IOException {
        empty();
        whole();
        largest();
        mostBytes();
        whatStays();
        random();
        Kit.end();
    }

    private static void empty() {
        Run book = new Run();
        Kit.dueThrow("before write", Kit.INDEX, () -> book.file(0));
        byte[] want = {0x50, 0x4B, 5, 6, 0, 0, 0, 0, 0, 0, 0, 0, 0, 0, 0, 0, 0, 0, 0, 0, 0, 0};
        Kit.due("no parts", Kit.written(book), want);
        Kit.dueThrow("file(-1)", Kit.INDEX, () -> book.file(-1));
        Kit.dueThrow("file(lowest)", Kit.INDEX, () -> book.file(Integer.MIN_VALUE));
    }

    private static void whole() throws IOException {
        Run book = new Book();
        byte[] high = new byte[300];
        new Random(8).nextBytes(high);
        Kit.add(book, "z/last.txt", Kit.filled("to be pressed ", 400));
        Kit.add(book, "a", "");
        Kit.add(book, "m", high);
        // Pressed these four have four bytes, too: then they are kept as they are.
        Kit.add(book, "same", "aaaa");
        Kit.due("as many", PressOracle.press(Kit.bytes("aaaa")).length, 4);
        Kit.add(book, "fewer", "aaaaa");
        byte[] want = new Zip().fewest("a", new byte[0]).fewest("fewer", Kit.bytes("aaaaa")).fewest("m", high)
            .part("same", "aaaa").fewest("z/last.txt", Kit.filled("to be pressed ", 400)).done();
        byte[] got = Kit.written(book);
        Kit.due("whole", got, want);
        ZipInputStream zip = new ZipInputStream(new ByteArrayInputStream(got));
        int i = 0;
        for (ZipEntry e = zip.getNextEntry(); e != null; e = zip.getNextEntry()) {
            Kit.due("entry", Kit.bytes(e.getName()), Kit.nameOf(book, i));
            Kit.due("entry's bytes", zip.readAllBytes(), Kit.contentOf(book, i));
            i++;
        }
        Kit.due("entries", i, 5);
    }

    /** Of sixteen bytes, with no three alike: pressing finds nothing in it, but a code of its own has four bits for each. */
    private static byte[] nothingToPress() {
        byte[] row = new byte[4000];
        boolean[] stood = new boolean[16 * 16 * 16];
        int three = 0;
        for (int k = 0; k < row.length; k++) {
            int next = 15;
            while (k >= 3 && stood[(three * 16 + next) % stood.length]) {
                next--;
            }
            next = k < 3 ? 0 : next;
            three = (three * 16 + next) % stood.length;
            stood[three] |= k >= 2;
            row[k] = (byte) ('A' + next);
        }
        return row;
    }

    /** Three parts with these names. The stream is typed once: the others come by again, with what stands behind them. */
    private static byte[] three(String[] names, byte[] content) {
        byte[] stream = Kit.deflate(content, 9, Deflater.HUFFMAN_ONLY);
        Zip zip = new Zip();
        byte[][] heads = new byte[3][];
        for (int k = 0; k < 3; k++) {
            Zip.Part part = new Zip.Part(names[k], content).stream(stream);
            part.hasRecord = false;
            heads[k] = java.util.Arrays.copyOf(Zip.recordOf(part), 54);
            part.record = k * (stream.length + 54) + (k == 2 ? 54 : 0);
            zip.part(part);
        }
        byte[] behind = Kit.join(stream, heads[1]);
        zip.before = Kit.join(heads[0], behind, behind, heads[2], behind, heads[2]);
        return zip.done();
    }

    private static void largest() {
        byte[] content = nothingToPress();
        Kit.due("pressed they are more", PressOracle.press(content).length, 4002);
        Run book = new Book();
        String[] names = new String[16];
        for (int k = 0; k < 16; k++) {
            names[k] = "abcdefghijklmnopqrstuvw" + (char) ('a' + k);
        }
        String[] full = {names[0], names[7], names[15]};
        Kit.due("read", Kit.read(book, three(full, content)), 0);
        Zip zip = new Zip();
        for (String name : names) {
            boolean isFull = java.util.Arrays.asList(full).contains(name);
            zip.fewest(name, isFull ? content : new byte[0]);
            if (!isFull) {
                Kit.add(book, name, "");
            }
        }
        Kit.due("in all", book.about(3, 0), 12000);
        byte[] got = Kit.written(book);
        Kit.due("the most that a file has", got.length, 14006);
        Kit.due("largest", got, zip.done());
        Kit.due("its last byte", book.reread(14005, 1), 1);
        Kit.due("read again", book.reread(14005, 0), 0);
        Kit.dueParts("read again", book, names);
    }

    private static void mostBytes() {
        Run book = new Book();
        Zip zip = new Zip();
        String[] rows = {"pressed", "to be ", "a"};
        for (int k = 0; k < 3; k++) {
            byte[] content = Kit.filled(rows[k], 4000);
            Kit.add(book, "p" + k, content);
            zip.fewest("p" + k, content);
        }
        Kit.due("in all", book.about(3, 0), 12000);
        byte[] got = Kit.written(book);
        Kit.due("12000 in all", got, zip.done());
        Kit.due("its last byte", book.reread(got.length - 1, 1), 1);
        Kit.due("read again", book.reread(got.length - 1, 0), 0);
        Kit.due("all are there", book.about(3, 0), 12000);
    }

    private static void whatStays() {
        Run book = new Run();
        Kit.add(book, "a", "one");
        byte[] before = Kit.written(book);
        Kit.type(book, Kit.bytes("b2"));
        Kit.due("write leaves the tape", book.write(), before.length);
        Kit.due("the tape is there", book.add(1), 2);
        Kit.due("no new file yet", book.file(before.length - 12), 1);
        Kit.dueThrow("nor a longer one", Kit.INDEX, () -> book.file(before.length));
        Kit.due("two parts", book.write() > before.length, true);
        Kit.remove(book, "a");
        Kit.remove(book, "b");
        Kit.due("none again", Kit.written(book).length, 22);
    }

    private static void random() {
        Random random = new Random(9);
        for (int round = 0; round < 60; round++) {
            Run book = new Book();
            TreeMap<String, byte[]> parts = new TreeMap<>();
            for (int k = random.nextInt(17); k > 0; k--) {
                byte[] content = new byte[random.nextInt(random.nextInt(9) == 0 ? 700 : 40)];
                int letters = 1 + random.nextInt(30);
                for (int n = 0; n < content.length; n++) {
                    content[n] = (byte) random.nextInt(letters);
                }
                String name = "p" + "._09az".charAt(random.nextInt(6)) + "x".repeat(random.nextInt(23));
                parts.put(name, content);
                Kit.due("round " + round, Kit.add(book, name, content), parts.size());
            }
            Zip zip = new Zip();
            parts.forEach(zip::fewest);
            byte[] want = zip.done();
            Kit.due("round " + round, Kit.written(book), want);
            if (want.length <= MOST_TYPED) {
                Run other = new Book();
                Kit.due("round " + round + " read", Kit.read(other, want), 0);
                Kit.due("round " + round + " again", Kit.written(other), want);
            }
        }
    }
}
