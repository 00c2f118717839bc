import java.util.Random;

/** Promises 8 and 9 and THE FILE: a test of its own for each sentence that names an edge. */
public final class FileEdgesTest {
    private static final String LONGEST = "abcdefghijklmnopqrstuvwx";

    public static void main(String[] args) {
        fileOfNoParts();
        fileOfOnePartAsItIs();
        fileOfOnePartPressed();
        methodWhenPressedAreFewer();
        methodWhenPressedAreAsMany();
        methodWhenPressedAreMore();
        numbersOfTwoAndFourBytes();
        partsInOrder();
        sixteenPartsWithLongNames();
        twelveThousandBytes();
        theLastOf12000Bytes();
        fourThousandBytesAsTheyAre();
        byteBeforeWrite();
        byteBeyondTheFile();
        fileThatWasWrittenLast();
        shorterFileBehindALongerOne();
        writeChangesNothingElse();
        Kit.end();
    }

    private static byte[] hex(String digits) {
        String plain = digits.replace(" ", "");
        byte[] row = new byte[plain.length() / 2];
        for (int k = 0; k < row.length; k++) {
            row[k] = (byte) Integer.parseInt(plain.substring(2 * k, 2 * k + 2), 16);
        }
        return row;
    }

    private static void due(String what, Run run, byte[] want) {
        Kit.due(what + ": how many", run.write(), want.length);
        Kit.due(what, Kit.bytes(run.file()), want);
    }

    private static void fileOfNoParts() {
        due("no parts", new Run(), hex("504B0506 0000 0000 0000 0000 00000000 00000000 0000"));
        Run run = new Run().with("a", "1");
        run.remove("a");
        due("none any more", run, hex("504B0506 0000 0000 0000 0000 00000000 00000000 0000"));
    }

    // "of each a RECORD: .. Then THE DIRECTORY, an entry of each: .. THE END: .."
    private static void fileOfOnePartAsItIs() {
        due("as it is", new Run().with("ab", "hi"), hex(
            "504B0304 1400 0000 0000 0000 2100 AC2A93D8 02000000 02000000 0200 0000 6162 6869"
            + "504B0102 1400 1400 0000 0000 0000 2100 AC2A93D8 02000000 02000000 0200 0000 0000 0000 0000 00000000 00000000 6162"
            + "504B0506 0000 0000 0100 0100 30000000 22000000 0000"));
        due("without bytes", new Run().with("a", ""), hex(
            "504B0304 1400 0000 0000 0000 2100 00000000 00000000 00000000 0100 0000 61"
            + "504B0102 1400 1400 0000 0000 0000 2100 00000000 00000000 00000000 0100 0000 0000 0000 0000 00000000 00000000 61"
            + "504B0506 0000 0000 0100 0100 2F000000 1F000000 0000"));
    }

    private static void fileOfOnePartPressed() {
        byte[] pressed = new Bits().block(1, 1).fixed('a').fixed(285).distance(0).fixed(257 + 16).number(6, 3).distance(0)
            .fixed(256).done();
        Kit.due("six bytes", pressed.length, 6);
        due("pressed", new Run().with("r", Kit.filled("a", 300)), Kit.join(hex(
            "504B0304 1400 0000 0800 0000 2100 09199789 06000000 2C010000 0100 0000 72"), pressed, hex(
            "504B0102 1400 1400 0000 0800 0000 2100 09199789 06000000 2C010000 0100 0000 0000 0000 0000 00000000 00000000 72"
            + "504B0506 0000 0000 0100 0100 2F000000 25000000 0000")));
    }

    private static void dueMethod(String content, int method, int size) {
        Run run = new Run().with("a", content);
        Kit.due("file of " + content, run.write(), 30 + 1 + size + 46 + 1 + 22);
        Kit.due("method of " + content, run.file(8), method);
        Kit.due("method of the entry of " + content, run.file(31 + size + 10), method);
        Kit.due("bytes here", run.file(18), size);
        Kit.due("bytes there are", run.file(22), content.length());
        Kit.due("it can be read", run.reread(0, 0), 0);
        Kit.due("as it was", run.content(0), content);
    }

    // "8 if its bytes PRESSED are fewer than they are, and it has those"
    private static void methodWhenPressedAreFewer() {
        dueMethod("aaaaa", 8, 4);
        dueMethod("abcabcabc", 8, 6);
        dueMethod("abcdabcdabcd", 8, 7);
    }

    // "0 if it has them as they are": as many are not fewer
    private static void methodWhenPressedAreAsMany() {
        dueMethod("aaaa", 0, 4);
        dueMethod("abcabc", 0, 6);
    }

    private static void methodWhenPressedAreMore() {
        dueMethod("", 0, 0);
        dueMethod("a", 0, 1);
        dueMethod("aaa", 0, 3);
        dueMethod("abcdefgh", 0, 8);
        dueMethod("\u00ff\u00fe\u00fd\u00fc", 0, 4);
    }

    // "Numbers of two or four bytes have the lowest byte first."
    private static void numbersOfTwoAndFourBytes() {
        byte[] high = new byte[270];
        new Random(8).nextBytes(high);
        // Sums with their highest bit set, a count and a place above 255.
        byte[] want = new Zip().part(new Zip.Part("a", high)).part("b", "hi").done();
        due("above 255", new Run().with("a", high).with("b", "hi"), want);
        Run run = new Run().with("a", high).with("b", "hi");
        run.write();
        int entry = 301 + 33 + 47;
        Kit.due("where the second record is", run.file(entry + 42) + 256 * run.file(entry + 43), 301);
        Kit.due("where the directory is", run.file(want.length - 6) + 256 * run.file(want.length - 5), 334);
    }

    // "THE FILE of the parts, in order"
    private static void partsInOrder() {
        due("in order", new Run().with("b", "2").with("a0", "4").with("a", "1").with("a.b", "3"),
            new Zip().part("a", "1").part("a.b", "3").part("a0", "4").part("b", "2").done());
    }

    private static void sixteenPartsWithLongNames() {
        Run run = new Run();
        Zip zip = new Zip();
        for (int k = 0; k < 16; k++) {
            String name = LONGEST.substring(0, 23) + (char) ('a' + k);
            run.add(name, "");
            zip.part(name, "");
        }
        byte[] want = zip.done();
        Kit.due("how many", run.write(), 16 * (30 + 24 + 46 + 24) + 22);
        for (int k = 0; k < 16; k++) {
            int record = 54 * k;
            int entry = 16 * 54 + 70 * k;
            for (int at : new int[] {record, record + 26, record + 53, entry, entry + 42, entry + 43, entry + 69}) {
                Kit.due("byte " + at, run.file(at), want[at] & 255);
            }
        }
        for (int at = want.length - 22; at < want.length; at++) {
            Kit.due("byte " + at, run.file(at), want[at] & 255);
        }
        Kit.due("read again", run.reread(0, 0), 0);
        Kit.due("sixteen", run.about(0, 0), 16);
    }

    private static void twelveThousandBytes() {
        byte[] most = Kit.filled("ab", 4000);
        Run run = new Run().with("a", most).with("b", most).with("c", most);
        byte[] want = new Zip().fewest("a", most).fewest("b", most).fewest("c", most).done();
        due("12000", run, want);
        Kit.due("read again", run.reread(0, 0), 0);
        Kit.due("12000", run.about(3, 0), 12000);
        Kit.due("the last byte", run.byteOf(2, 4000), 'b');
    }

    private static void theLastOf12000Bytes() {
        byte[] most = Kit.filled("ab", 4000);
        byte[] last = Kit.join(Kit.filled("ab", 3997), Kit.bytes("xyz"));
        Run run = new Run().with("a", most).with("b", most).with("c", last);
        due("its last bytes", run, new Zip().fewest("a", most).fewest("b", most).fewest("c", last).done());
        Kit.due("read again", run.reread(0, 0), 0);
        Kit.due("the last byte", run.byteOf(2, 4000), 'z');
    }

    private static void fourThousandBytesAsTheyAre() {
        byte[] row = new byte[4000];
        new Random(4000).nextBytes(row);
        Run run = new Run().with("a", row);
        Kit.due("how many", run.write(), 31 + 4000 + 47 + 22);
        Kit.due("as they are", run.file(8), 0);
        Kit.due("the last byte", run.file(31 + 3999), row[3999] & 255);
        Kit.due("the directory", run.file(31 + 4000), 0x50);
        Kit.due("read again", run.reread(0, 0), 0);
        Kit.due("the last byte", run.byteOf(0, 4000), row[3999] & 255);
    }

    // "(before write() there is none)"
    private static void byteBeforeWrite() {
        Run run = new Run().with("a", "1");
        for (int i : new int[] {0, 1, -1, 21, Integer.MIN_VALUE, Integer.MAX_VALUE}) {
            Kit.dueThrow("file(" + i + ")", Kit.INDEX, () -> run.file(i));
        }
        run.tape("abc").press();
        run.tape(new Zip().done()).read();
        Kit.dueThrow("what came out is no file, nor is what was read", Kit.INDEX, () -> run.file(0));
    }

    // "Byte i of the file that was written last. IndexOutOfBoundsException."
    private static void byteBeyondTheFile() {
        Run run = new Run();
        int size = run.write();
        Kit.due("the first one", run.file(0), 0x50);
        Kit.due("the last one", run.file(size - 1), 0);
        for (int i : new int[] {-1, size, size + 1, 14005, 14006, Integer.MIN_VALUE, Integer.MAX_VALUE}) {
            Kit.dueThrow("file(" + i + ")", Kit.INDEX, () -> run.file(i));
        }
        // Bytes of 128 and more are no negative numbers.
        run.add("a", "\u00ff\u0080\u007f");
        run.write();
        Kit.due("255", run.file(31), 255);
        Kit.due("128", run.file(32), 128);
        Kit.due("127", run.file(33), 127);
    }

    private static void fileThatWasWrittenLast() {
        Run run = new Run().with("a", "1");
        int size = run.write();
        String before = run.file();
        run.add("b", "2");
        run.remove("a");
        run.tape(new Zip().part("c", "3").done()).read();
        run.tape("abc").press();
        run.tape("\u0003\u0000").expand();
        run.reread(0, 1);
        run.reread(0, 0);
        run.check();
        Kit.due("it stays", run.file(), before);
        Kit.due("the same parts", run.write(), size);
        Kit.due("the same file", run.file(), before);
    }

    private static void shorterFileBehindALongerOne() {
        Run run = new Run().with("a", "1");
        int longer = run.write();
        run.remove("a");
        Kit.due("shorter", run.write(), 22);
        for (int i = 22; i <= longer; i++) {
            int at = i;
            Kit.dueThrow("file(" + i + ")", Kit.INDEX, () -> run.file(at));
        }
    }

    private static void writeChangesNothingElse() {
        Run run = new Run().with("b", "<rels/>").with("root", Kit.filled("x", 20)).tape("came out");
        run.press();
        run.check();
        String before = run.seen();
        run.tape("tape");
        run.write();
        run.dueTape("write", Kit.bytes("tape"));
        Kit.due("all but the file", run.seen().replaceAll("(?s)file: .*\nout: ", "file: \nout: "), before);
    }
}
