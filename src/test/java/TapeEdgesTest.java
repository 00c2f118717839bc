/** Promises 1, 2, 3 and 14, THE TAPE and THE SUM: a test of its own for each sentence that names an edge. */
public final class TapeEdgesTest {
    private static final byte[] MOST = Kit.filled("0123456789x", 8000);

    public static void main(String[] args) {
        newObjectHasNoParts();
        newObjectHasAnEmptyTape();
        newObjectHasNoFileAndNothingCameOut();
        newObjectsShareNothing();
        theLastOf512Calls();
        typeTakesTheLowestBytesLowestFirst();
        typeRefusesAnotherN();
        typeFillsTheTape();
        typeRefusesWhatIsTooMuch();
        typeNamesTheArgumentFirst();
        againOfNothing();
        againOfAll();
        againOfMoreThanThereIs();
        againOfNegative();
        againTakesTheLastBytes();
        againFillsTheTape();
        againRefusesWhatIsTooMuch();
        againNamesTheArgumentFirst();
        sumOfNothing();
        sumOfOneByte();
        sumOfKnownRows();
        sumOfAFullTape();
        whatTakesTheTape();
        whatLeavesTheTape();
        Kit.end();
    }

    // "No parts"
    private static void newObjectHasNoParts() {
        Run run = new Run();
        Kit.due("parts", run.about(0, 0), 0);
        Kit.due("bytes in all", run.about(3, 0), 0);
        Kit.dueThrow("name's size", Kit.INDEX, () -> run.about(1, 0));
        Kit.dueThrow("size", Kit.INDEX, () -> run.about(2, 0));
        Kit.dueThrow("byteOf", Kit.INDEX, () -> run.byteOf(0, 0));
        Kit.dueThrow("relations", Kit.INDEX, () -> run.relations(0));
        Kit.dueThrow("relation", Kit.INDEX, () -> run.relation(0, 0));
        Kit.dueThrow("no check yet", Kit.INDEX, () -> run.fault(0, 0));
        Kit.due("nothing to find", run.check(), 0);
        Kit.dueThrow("no fault", Kit.INDEX, () -> run.fault(0, 0));
        Kit.due("the file of none", run.write(), 22);
    }

    // "the tape .. empty"
    private static void newObjectHasAnEmptyTape() {
        Kit.due("size", new Run().again(0), 0);
        Kit.dueThrow("no byte", Kit.ARGUMENT, () -> new Run().again(1));
        Kit.due("sum", new Run().sum(), 0);
        Kit.dueThrow("no name", Kit.ARGUMENT, () -> new Run().add(0));
        Kit.due("no part's name", new Run().remove(), false);
        Kit.due("no file", new Run().read(), 1);
        Kit.due("no stream", new Run().expand(), -1);
        Kit.due("pressed", new Run().press(), 2);
        Kit.due("first byte", new Run().type(5, 1), 1);
    }

    // "the file and what came out are empty"
    private static void newObjectHasNoFileAndNothingCameOut() {
        Run run = new Run();
        Kit.dueThrow("file", Kit.INDEX, () -> run.file(0));
        Kit.dueThrow("reread", Kit.INDEX, () -> run.reread(0, 0));
        Kit.dueThrow("out", Kit.INDEX, () -> run.out(0));
    }

    private static void newObjectsShareNothing() {
        Run one = new Run().with("root", "1").tape("pressed");
        one.press();
        one.write();
        one.with("a", "").check();
        one.type(7, 1);
        Run other = new Run();
        Kit.due("other's state", other.seen(), "0 parts, 0 bytes\nfile: \nout: \nfaults: ");
        Kit.due("other's tape", other.again(0), 0);
        other.with("b", "2").tape("other").expand();
        Kit.due("one's parts", one.names(), "a root");
        Kit.due("one's tape", one.again(0), 1);
    }

    // "An object is used for at most 512 calls after it has been made"
    private static void theLastOf512Calls() {
        Run typed = new Run();
        for (int call = 1; call <= 512; call++) {
            Kit.due("type, call " + call, typed.type(call, 8), 8 * call);
        }
        Run run = new Run().with("a", Kit.filled("abc", 60)).with("root", "").with("root.rels", "<rels><rel id='x' to='b'/></rels>");
        int size = run.write();
        for (int call = 0; call < 60; call++) {
            Kit.due("write", run.write(), size);
            Kit.due("reread", run.reread(0, 0), 0);
            Kit.due("reread with a fault", run.reread(size - 1, 1), 1);
            Kit.due("check", run.check(), 2);
            Kit.due("relations", run.relations(1), 1);
            Kit.due("expand", run.expand(), -1);
            Kit.due("press", run.press(), 2);
        }
        Kit.due("the parts", run.names(), "a root root.rels");
    }

    // "The n lowest bytes of w come behind the tape, the lowest first: how many it has."
    private static void typeTakesTheLowestBytesLowestFirst() {
        String all = "\u0011\"3DUfw\u0088";
        for (int n = 1; n <= 8; n++) {
            Run run = new Run().tape("a");
            Kit.due("how many with " + n, run.type(0x8877665544332211L, n), 1 + n);
            Kit.due("again " + n, run.type(0x8877665544332211L, n), 1 + 2 * n);
            run.add(1);
            Kit.due("bytes of " + n, run.content(0), all.substring(0, n) + all.substring(0, n));
        }
        Run run = new Run().tape("a");
        run.type(-1L, 8);
        run.type(Long.MIN_VALUE, 8);
        run.type(Long.MIN_VALUE, 7);
        run.type(Long.MAX_VALUE, 8);
        run.add(1);
        String zeros = "\u0000".repeat(7);
        Kit.due("highest bits", run.content(0),
            "\u00ff".repeat(8) + zeros + "\u0080" + zeros + "\u00ff".repeat(7) + "\u007f");
    }

    // "IllegalArgumentException when n is not 1 .. 8"
    private static void typeRefusesAnotherN() {
        for (int n : new int[] {0, -1, -8, 9, 10, 16, 257, Integer.MIN_VALUE, Integer.MAX_VALUE}) {
            Run run = new Run().tape("abc");
            Kit.dueThrow("n " + n, Kit.ARGUMENT, () -> run.type(-1L, n));
            run.dueTape("n " + n, Kit.bytes("abc"));
        }
    }

    // "THE TAPE holds up to 8000 bytes"
    private static void typeFillsTheTape() {
        Run run = new Run().tape(Kit.filled("ab", 7999));
        Kit.due("the last byte", run.type('b', 1), 8000);
        run.dueTape("one behind 7999", Kit.filled("ab", 8000));
        run.tape(Kit.filled("12345678", 7992));
        Kit.due("the last eight", run.type(0x3837363534333231L, 8), 8000);
        run.dueTape("eight behind 7992", Kit.filled("12345678", 8000));
    }

    // "UnsupportedOperationException when there would be more than 8000"
    private static void typeRefusesWhatIsTooMuch() {
        Run full = new Run().tape(MOST);
        for (int n = 1; n <= 8; n++) {
            int many = n;
            Kit.dueThrow("8000 and " + n, Kit.UNSUPPORTED, () -> full.type(-1L, many));
        }
        full.dueTape("full", MOST);
        for (int n = 2; n <= 8; n++) {
            int many = n;
            byte[] row = Kit.filled("xyz", 8001 - n);
            Run run = new Run().tape(row);
            Kit.dueThrow("8001 by " + n, Kit.UNSUPPORTED, () -> run.type(-1L, many));
            run.dueTape("none of the " + n + " came", row);
        }
        Run run = new Run().tape(Kit.filled("xyz", 7993));
        Kit.dueThrow("8001", Kit.UNSUPPORTED, () -> run.type(0, 8));
        Kit.due("but 8000", run.type(0, 7), 8000);
    }

    // "where several exceptions that a call names fit, it is the one that it names first"
    private static void typeNamesTheArgumentFirst() {
        Run run = new Run().tape(MOST);
        Kit.dueThrow("n 9, full", Kit.ARGUMENT, () -> run.type(0, 9));
        Kit.dueThrow("n 0, full", Kit.ARGUMENT, () -> run.type(0, 0));
        Kit.dueThrow("highest n, full", Kit.ARGUMENT, () -> run.type(0, Integer.MAX_VALUE));
        run.dueTape("full", MOST);
    }

    // "(n 0: nothing)"
    private static void againOfNothing() {
        Run run = new Run();
        Kit.due("empty", run.again(0), 0);
        run.tape("abc");
        Kit.due("three", run.again(0), 3);
        run.dueTape("three", Kit.bytes("abc"));
        run.tape(MOST);
        Kit.due("full", run.again(0), 8000);
        run.dueTape("full", MOST);
    }

    // "The last n bytes of the tape .. come once more behind it: how many it has."
    private static void againTakesTheLastBytes() {
        Run run = new Run().tape("abcdef");
        Kit.due("one", run.again(1), 7);
        Kit.due("three", run.again(3), 10);
        run.dueTape("last bytes", Kit.bytes("abcdeffeff"));
    }

    // "when it has not so many": all of them are still right
    private static void againOfAll() {
        Run run = new Run().tape("abc");
        Kit.due("all", run.again(3), 6);
        Kit.due("all of those", run.again(6), 12);
        run.dueTape("all", Kit.bytes("abcabcabcabc"));
        Run one = new Run().tape("x");
        Kit.due("of one", one.again(1), 2);
    }

    // "IllegalArgumentException when it has not so many"
    private static void againOfMoreThanThereIs() {
        for (int n : new int[] {4, 5, 8, 8000, 8001, Integer.MAX_VALUE}) {
            Run run = new Run().tape("abc");
            Kit.dueThrow("n " + n, Kit.ARGUMENT, () -> run.again(n));
            run.dueTape("n " + n, Kit.bytes("abc"));
        }
        Kit.dueThrow("of none", Kit.ARGUMENT, () -> new Run().again(1));
        // What a call took is not there any more.
        Run taken = new Run().tape("abcdef");
        taken.sum();
        Kit.dueThrow("of what was taken", Kit.ARGUMENT, () -> taken.again(1));
        taken.tape("xy");
        Kit.dueThrow("of two", Kit.ARGUMENT, () -> taken.again(3));
        Kit.due("two", taken.again(2), 4);
    }

    // "or n is negative"
    private static void againOfNegative() {
        for (int n : new int[] {-1, -3, Integer.MIN_VALUE}) {
            Run run = new Run().tape("abc");
            Kit.dueThrow("n " + n, Kit.ARGUMENT, () -> run.again(n));
            run.dueTape("n " + n, Kit.bytes("abc"));
            Kit.dueThrow("n " + n + " of none", Kit.ARGUMENT, () -> new Run().again(n));
        }
    }

    // "UnsupportedOperationException as for type": 8000 are still right
    private static void againFillsTheTape() {
        Run run = new Run().tape(Kit.filled("ab", 4000));
        Kit.due("4000 twice", run.again(4000), 8000);
        run.dueTape("4000 twice", Kit.filled("ab", 8000));
        run.tape(Kit.filled("ab", 7999));
        Kit.due("one more", run.again(1), 8000);
        run.dueTape("one more", Kit.join(Kit.filled("ab", 7999), Kit.bytes("a")));
    }

    // "UnsupportedOperationException as for type"
    private static void againRefusesWhatIsTooMuch() {
        byte[] row = Kit.filled("abc", 4001);
        Run run = new Run().tape(row);
        Kit.dueThrow("8001", Kit.UNSUPPORTED, () -> run.again(4000));
        Kit.dueThrow("8002", Kit.UNSUPPORTED, () -> run.again(4001));
        run.dueTape("4001", row);
        Run full = new Run().tape(MOST);
        Kit.dueThrow("one more", Kit.UNSUPPORTED, () -> full.again(1));
        Kit.dueThrow("all", Kit.UNSUPPORTED, () -> full.again(8000));
        full.dueTape("full", MOST);
    }

    private static void againNamesTheArgumentFirst() {
        Run run = new Run().tape(MOST);
        Kit.dueThrow("8001, full", Kit.ARGUMENT, () -> run.again(8001));
        Kit.dueThrow("highest, full", Kit.ARGUMENT, () -> run.again(Integer.MAX_VALUE));
        Kit.dueThrow("-1, full", Kit.ARGUMENT, () -> run.again(-1));
        run.dueTape("full", MOST);
        Run half = new Run().tape(Kit.filled("ab", 4500));
        Kit.dueThrow("4501 of 4500", Kit.ARGUMENT, () -> half.again(4501));
    }

    // "all ones at first .. at the end all bits are turned round"
    private static void sumOfNothing() {
        Run run = new Run();
        Kit.due("of none", run.sum(), 0);
        run.tape("abc").sum();
        Kit.due("of none again", run.sum(), 0);
    }

    private static void sumOfOneByte() {
        Run run = new Run();
        for (int b = 0; b < 256; b++) {
            run.type(b, 1);
            Kit.due("of " + b, run.sum(), sumOf((byte) b));
        }
        Kit.due("of a zero", new Run().tape("\u0000").sum(), 0xD202EF8D);
    }

    // "for each bit, it is moved one to the right (a zero comes in), and what went out, and the bit, if they differ .."
    private static int sumOf(byte... row) {
        long sum = 0xFFFFFFFFL;
        for (byte b : row) {
            for (int bit = 0; bit < 8; bit++) {
                boolean differ = (sum & 1) != (b >> bit & 1);
                sum = sum >> 1;
                sum = differ ? sum ^ 0xEDB88320L : sum;
            }
        }
        return (int) (sum ^ 0xFFFFFFFFL);
    }

    private static void sumOfKnownRows() {
        Run run = new Run();
        Kit.due("digits", run.tape("123456789").sum(), 0xCBF43926);
        Kit.due("a", run.tape("a").sum(), 0xE8B7BE43);
        // The order of the bytes counts, and so do zeros before and behind.
        Kit.due("ab", run.tape("ab").sum() != run.tape("ba").sum(), true);
        Kit.due("zeros before", run.tape("\u0000\u0000a").sum(), sumOf((byte) 0, (byte) 0, (byte) 'a'));
        Kit.due("zeros behind", run.tape("a\u0000\u0000").sum(), sumOf((byte) 'a', (byte) 0, (byte) 0));
        Kit.due("32 ones", run.tape("\u00ff\u00ff\u00ff\u00ff").sum(), -1);
    }

    private static void sumOfAFullTape() {
        Run run = new Run().tape(MOST);
        Kit.due("8000", run.sum(), sumOf(MOST));
        run.dueTaken("sum");
    }

    // "a call that takes it empties it, whatever it answers or throws"
    private static void whatTakesTheTape() {
        Run run = new Run();
        run.tape("a1").add(1);
        run.dueTaken("add");
        run.tape("A1");
        Kit.dueThrow("add, no name", Kit.ARGUMENT, () -> run.add(1));
        run.dueTaken("add, no name");
        run.tape("a1");
        Kit.dueThrow("add, n beyond", Kit.ARGUMENT, () -> run.add(3));
        run.dueTaken("add, n beyond");
        run.tape("a1");
        Kit.dueThrow("add, n negative", Kit.ARGUMENT, () -> run.add(-1));
        run.dueTaken("add, n negative");
        run.tape(Kit.filled("a", 4002));
        Kit.dueThrow("add, too many", Kit.UNSUPPORTED, () -> run.add(1));
        run.dueTaken("add, too many");
        Kit.due("no part", run.tape("b").remove(), false);
        run.dueTaken("remove, no part");
        Kit.due("no name", run.tape("B").remove(), false);
        run.dueTaken("remove, no name");
        Kit.due("too long", run.tape(MOST).remove(), false);
        run.dueTaken("remove, too long");
        Kit.due("a part", run.tape("a").remove(), true);
        run.dueTaken("remove");
        Kit.due("a file", run.tape(new Zip().done()).read(), 0);
        run.dueTaken("read");
        Kit.due("no file", run.tape("no file, though it has many bytes").read(), 1);
        run.dueTaken("read, no file");
        Kit.due("pressed", run.tape("abc").press(), 5);
        run.dueTaken("press");
        run.tape(Kit.filled("a", 4001));
        Kit.dueThrow("press, too many", Kit.UNSUPPORTED, run::press);
        run.dueTaken("press, too many");
        Kit.due("a stream", run.tape("\u0003\u0000").expand(), 0);
        run.dueTaken("expand");
        Kit.due("no stream", run.tape("\u0007").expand(), -2);
        run.dueTaken("expand, no stream");
        run.tape("abc").sum();
        run.dueTaken("sum");
    }

    private static void whatLeavesTheTape() {
        Run run = new Run().with("root", "");
        run.add("root.rels", "<rels><rel id='x' to='root'/></rels>");
        run.tape("tape");
        run.about(0, 0);
        Kit.dueThrow("about", Kit.INDEX, () -> run.about(4, 0));
        run.byteOf(0, 0);
        Kit.dueThrow("byteOf", Kit.INDEX, () -> run.byteOf(2, 0));
        run.write();
        run.file(0);
        Kit.dueThrow("file", Kit.INDEX, () -> run.file(-1));
        Kit.due("reread", run.reread(0, 0), 0);
        Kit.due("reread with a fault", run.reread(0, 1), 3);
        Kit.dueThrow("reread, no byte", Kit.INDEX, () -> run.reread(-1, 0));
        Kit.dueThrow("reread, no x", Kit.ARGUMENT, () -> run.reread(0, 256));
        Kit.dueThrow("out", Kit.INDEX, () -> run.out(0));
        run.check();
        Kit.dueThrow("fault", Kit.INDEX, () -> run.fault(0, 0));
        run.relations(0);
        Kit.dueThrow("relations", Kit.INDEX, () -> run.relations(2));
        run.relation(0, 0);
        Kit.dueThrow("relation", Kit.INDEX, () -> run.relation(0, 1));
        run.dueTape("none of these takes it", Kit.bytes("tape"));
    }
}
