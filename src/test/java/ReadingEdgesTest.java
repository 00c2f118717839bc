import java.util.Arrays;

/** Promises 10 and 11 and READING: a test of its own for each sentence that names an edge. */
public final class ReadingEdgesTest {
    private static final String OLD = "1 parts, 3 bytes\nold: was (0)\nfile: \nout: \nfaults: ";
    private static final int[] FAR = {Integer.MIN_VALUE, -256, -1, 256, 257, 511, Integer.MAX_VALUE};

    public static void main(String[] args) {
        readingNoParts();
        readingInsteadOfTheParts();
        readingInAnyOrder();
        readingBytesThatNoRecordHas();
        readingAFullTape();
        fault1NotSoMany();
        fault1NoEnd();
        fault1NoZeros();
        fault1NotTheSameTwice();
        fault2NotJustBeforeTheEnd();
        fault2NotThatManyEntries();
        fault2EntryThatIsCut();
        fault2MarkAndTwenties();
        fault2NoZeros();
        fault2AnyNumbersBehindTheMethod();
        fault2AnotherMethod();
        fault2BeforeAllOf3();
        fault3NotWithin();
        fault3FarAway();
        fault3HowItBegins();
        fault3NotTheSame();
        fault3NoZeroBehindTheNamesCount();
        fault4NoName();
        fault4ThereAlready();
        fault5NoStream();
        fault5NotAsMany();
        fault5AnotherSum();
        fault6The17thPart();
        fault6MoreThan4000();
        fault6MoreThan12000();
        faultsOfOneEntryBeforeTheNext();
        faultsOfOneEntryInOrder();
        rereadBeforeWrite();
        rereadNoSuchByte();
        rereadAnotherX();
        rereadNamesTheIndexFirst();
        rereadEachBit();
        rereadLeavesTheFile();
        rereadWhatDoesNotMatter();
        Kit.end();
    }

    /** What a file is read as; a fault must leave all as it was. */
    private static void due(String what, byte[] file, int want) {
        Run run = new Run().with("old", "was").tape(file);
        Kit.due(what, run.read(), want);
        run.dueTaken(what);
        if (want != 0) {
            Kit.due(what + " changes nothing", run.seen(), OLD);
            Kit.due("a right one behind it", run.tape(two().done()).read(), 0);
            Kit.due("its parts", run.names(), "a b");
        }
    }

    private static byte[] with(byte[] file, int at, int... bytes) {
        byte[] changed = file.clone();
        for (int k = 0; k < bytes.length; k++) {
            changed[at + k] = (byte) bytes[k];
        }
        return changed;
    }

    private static byte[] turned(byte[] file, int at, int x) {
        return with(file, at, file[at] ^ x);
    }

    /** Two parts: a at 0, as it is (36 bytes); b at 36, pressed (37 bytes); the directory at 73; the end at 167. */
    private static Zip two() {
        return new Zip().part("a", "plain").fewest("b", Kit.filled("abc", 9));
    }

    private static byte[] file() {
        byte[] file = two().done();
        Kit.due("the places are right", file.length, 189);
        return file;
    }

    // "0, and its parts are the parts"
    private static void readingNoParts() {
        Run run = new Run().with("old", "was").tape(new Zip().done());
        Kit.due("22 bytes are a file", run.read(), 0);
        Kit.due("no parts", run.about(0, 0), 0);
        Kit.due("no bytes", run.about(3, 0), 0);
    }

    private static void readingInsteadOfTheParts() {
        Run run = new Run().with("old", "was").with("b", "old");
        run.write();
        String before = run.file();
        run.tape("out").press();
        String out = run.out();
        Kit.due("faults", run.check(), 2);
        Kit.due("read", run.tape(two().done()).read(), 0);
        // "(the file that was written last stays)", and so does what came out and what was found.
        Kit.due("all", run.seen(), "2 parts, 14 bytes\na: plain (0)\nb: abcabcabc (0)\nfile: " + before + "\nout: " + out
            + "\nfaults: 4.0.0 4.1.0");
        Kit.due("it can be gone on with", run.add("aa", "1"), 3);
        Kit.due("in order", run.names(), "a aa b");
    }

    private static void readingInAnyOrder() {
        Run run = new Run().tape(new Zip().part("b", "1").part("a.", "2").part("c", "3").part("a", "4").done());
        Kit.due("read", run.read(), 0);
        Kit.due("in order", run.seen(), "4 parts, 4 bytes\na: 4 (0)\na.: 2 (0)\nb: 1 (0)\nc: 3 (0)\nfile: \nout: \nfaults: ");
        // Records may stand in another order than their entries, and within one another.
        Zip.Part inner = new Zip.Part("i", Kit.bytes("in"));
        Zip.Part outer = new Zip.Part("o", Zip.recordOf(inner));
        inner.record = 31;
        inner.hasRecord = false;
        due("one within another", new Zip().part(outer).part(inner).done(), 0);
        inner.record = 0;
        due("no record there", new Zip().part(outer).part(inner).done(), 3);
        byte[] file = two().done();
        byte[] swapped = Kit.join(Arrays.copyOf(file, 73), Arrays.copyOfRange(file, 120, 167), Arrays.copyOfRange(file, 73, 120),
            Arrays.copyOfRange(file, 167, 189));
        due("entries the other way round", swapped, 0);
    }

    private static void readingBytesThatNoRecordHas() {
        Zip zip = two();
        zip.before = Kit.bytes("before");
        due("before", zip.done(), 0);
        zip = two();
        zip.between = Kit.bytes("between");
        due("before the directory", zip.done(), 0);
        zip = new Zip();
        zip.before = Kit.bytes("no part");
        due("no part at all", zip.done(), 0);
    }

    // "THE TAPE holds up to 8000 bytes"
    private static void readingAFullTape() {
        Zip zip = new Zip().part(new Zip.Part("a", Kit.filled("ab", 4000))).part(new Zip.Part("b", Kit.filled("xyz", 3822)));
        byte[] file = zip.done();
        Kit.due("8000", file.length, 8000);
        Run run = new Run().tape(file);
        Kit.due("read", run.read(), 0);
        Kit.due("in all", run.about(3, 0), 7822);
        Kit.due("the last byte", run.byteOf(1, 3822), 'z');
        // Nothing behind the tape is an entry.
        due("one entry more said", with(file, 7986, 3, 0, 3, 0), 2);
        due("many more said", with(file, 7986, 255, 255, 255, 255), 2);
        due("the last entry goes on", with(file, 7931 + 28, 2), 2);
        due("no end", Kit.filled("PK", 8000), 1);
    }

    // "(or there are not so many)"
    private static void fault1NotSoMany() {
        byte[] end = new Zip().done();
        for (int n = 0; n < 22; n++) {
            due("the last " + n, Arrays.copyOfRange(end, 22 - n, 22), 1);
            due("the first " + n, Arrays.copyOf(end, n), 1);
        }
        due("all 22", end, 0);
    }

    // "1 its last 22 bytes are no END"
    private static void fault1NoEnd() {
        for (int k = 0; k < 4; k++) {
            due("the end's byte " + k, turned(file(), 167 + k, 1), 1);
            due("the end's byte " + k, turned(file(), 167 + k, 128), 1);
        }
        due("a byte behind", Kit.join(file(), new byte[1]), 1);
        due("a byte less", Arrays.copyOf(file(), 188), 1);
        due("the end twice", Kit.join(file(), new Zip().done()), 2);
    }

    // "with zeros where it has zeros"
    private static void fault1NoZeros() {
        for (int k : new int[] {4, 5, 6, 7, 20, 21}) {
            due("the end's byte " + k, with(file(), 167 + k, 1), 1);
            due("the end's byte " + k, with(file(), 167 + k, 128), 1);
        }
    }

    // "and the same number twice"
    private static void fault1NotTheSameTwice() {
        due("2, 3", with(file(), 177, 3), 1);
        due("3, 2", with(file(), 175, 3), 1);
        due("2, 258", with(file(), 178, 1), 1);
        due("258, 2", with(file(), 176, 1), 1);
        due("0, 2", with(file(), 175, 0), 1);
    }

    // "2 the directory does not end just before it"
    private static void fault2NotJustBeforeTheEnd() {
        due("a byte too long", with(file(), 179, 95), 2);
        due("a byte too short", with(file(), 179, 93), 2);
        due("a byte later", with(file(), 183, 74), 2);
        due("a byte earlier", with(file(), 183, 72), 2);
        for (int k = 0; k < 8; k++) {
            due("byte " + k, turned(file(), 179 + k, 128), 2);
        }
        byte[] file = two().done();
        byte[] gap = Kit.join(Arrays.copyOf(file, 167), new byte[1], Arrays.copyOfRange(file, 167, 189));
        due("a byte between", gap, 2);
        due("a byte between that is said to be of it", with(gap, 180, 95), 2);
        // In 32 bits these are where the end is.
        due("beyond four bytes", with(file(), 179, 0xFF, 0xFF, 0xFF, 0xFF, 168, 0, 0, 0), 2);
        due("beyond four bytes, the other way", with(file(), 179, 168, 0, 0, 0, 0xFF, 0xFF, 0xFF, 0xFF), 2);
    }

    // "or is not just that many entries, one behind the other"
    private static void fault2NotThatManyEntries() {
        for (int n : new int[] {0, 1, 3, 4, 255}) {
            due(n + " said", with(file(), 175, n, 0, n, 0), 2);
        }
        due("65535 said", with(file(), 175, 255, 255, 255, 255), 2);
        due("258 said", with(file(), 175, 2, 1, 2, 1), 2);
        due("one said of none", with(new Zip().done(), 8, 1, 0, 1, 0), 2);
        // The first entry is no part of it.
        due("one later", with(file(), 175, 1, 0, 1, 0, 47, 0, 0, 0, 120), 0);
        due("two, but one is there", with(file(), 179, 47, 0, 0, 0, 120), 2);
        due("a byte into the entry", with(file(), 179, 93, 0, 0, 0, 74), 2);
    }

    private static void fault2EntryThatIsCut() {
        due("the last name's count is more", with(file(), 120 + 28, 2), 2);
        due("the last name's count is much more", with(file(), 120 + 29, 255), 2);
        due("the last name's count is less", with(file(), 120 + 28, 0), 2);
        due("the first name's count is more", with(file(), 73 + 28, 2), 2);
        due("the first one has all", with(file(), 73 + 28, 48), 2);
        due("the first name's count is as much as it can be", with(file(), 73 + 28, 255, 255), 2);
        // 45 bytes of a second entry: one less than an entry without a name has.
        byte[] entry = Zip.entryOf(new Zip.Part("", new byte[0]));
        for (int n = 40; n <= 47; n++) {
            Zip.Part first = new Zip.Part("a", Kit.bytes("x"));
            first.record = 0;
            byte[] record = Zip.recordOf(first);
            byte[] directory = Kit.join(Zip.entryOf(first), Arrays.copyOf(entry, n));
            byte[] end = Kit.join(Zip.four(0x06054B50), Zip.four(0), Zip.two(2), Zip.two(2), Zip.four(directory.length),
                Zip.four(record.length), Zip.two(0));
            // With all 46 it is an entry, whose record can't be there.
            due("second entry of " + n, Kit.join(record, directory, end), n == 46 ? 3 : 2);
        }
    }

    // "with 0x02014B50, 20, 20 each"
    private static void fault2MarkAndTwenties() {
        for (int entry : new int[] {73, 120}) {
            for (int k = 0; k < 8; k++) {
                due("byte " + k + " of the entry", turned(file(), entry + k, 1), 2);
                due("byte " + k + " of the entry", turned(file(), entry + k, 128), 2);
            }
        }
    }

    // "zeros where they have zeros"
    private static void fault2NoZeros() {
        for (int entry : new int[] {73, 120}) {
            for (int k : new int[] {8, 9, 30, 31, 32, 33, 34, 35, 36, 37, 38, 39, 40, 41}) {
                due("byte " + k + " of the entry", with(file(), entry + k, 1), 2);
                due("byte " + k + " of the entry", with(file(), entry + k, 128), 2);
            }
        }
    }

    // "(but the 0 and 33 behind the method may be any)"
    private static void fault2AnyNumbersBehindTheMethod() {
        int[][] any = {{0, 0, 0, 0}, {1, 0, 33, 0}, {0, 0, 34, 0}, {0, 128, 33, 128}, {255, 255, 255, 255}};
        for (int[] four : any) {
            due("any", with(with(file(), 73 + 12, four), 10, four), 0);
            due("any in the second one", with(with(file(), 120 + 12, four), 36 + 10, four), 0);
        }
    }

    // "and method 0 or 8"
    private static void fault2AnotherMethod() {
        for (int method : new int[] {1, 7, 9, 16, 128, 255, 256, 264, 0x800}) {
            int[] both = {method & 255, method >> 8};
            due("method " + method, with(with(file(), 73 + 10, both), 8, both), 2);
            due("method " + method + " of the second one", with(with(file(), 120 + 10, both), 36 + 8, both), 2);
        }
        due("method 8 of what is no stream", with(with(file(), 73 + 10, 8), 8, 8), 5);
        due("method 0 of what is pressed", with(with(file(), 120 + 10, 0), 36 + 8, 0), 5);
    }

    // "then entry by entry": the directory is looked through before
    private static void fault2BeforeAllOf3() {
        due("the first record, the second entry", with(turned(file(), 0, 1), 120 + 8, 1), 2);
        due("the first record alone", turned(file(), 0, 1), 3);
        due("the first sum, too many said", with(turned(file(), 31, 1), 175, 3, 0, 3), 2);
    }

    // "3 its record is not within the bytes before the directory"
    private static void fault3NotWithin() {
        // The second record ends just before the directory; one byte more is said of it.
        due("ends just before", file(), 0);
        Zip zip = two();
        zip.parts.get(1).size++;
        due("one byte beyond", zip.done(), 3);
        zip.between = new byte[1];
        due("that byte is there", zip.done(), 5);
        // The record is a copy of the directory's last bytes: it would be one, were it not behind.
        due("where the directory begins", with(file(), 73 + 42, 73), 3);
        Zip.Part part = new Zip.Part("a", new byte[0]);
        part.record = 0;
        byte[] record = Zip.recordOf(part);
        for (int less = 0; less <= record.length; less++) {
            byte[] entry = Zip.entryOf(part);
            byte[] end = Kit.join(Zip.four(0x06054B50), Zip.four(0), Zip.two(1), Zip.two(1), Zip.four(entry.length),
                Zip.four(record.length - less), Zip.two(0));
            due(less + " bytes less", Kit.join(Arrays.copyOf(record, record.length - less), entry, end), less == 0 ? 0 : 3);
        }
    }

    private static void fault3FarAway() {
        int[][] places = {{1, 0, 0, 0}, {73, 0, 0, 0}, {36, 1, 0, 0}, {36, 0, 1, 0}, {36, 0, 0, 1}, {36, 0, 0, 128},
            {255, 255, 255, 127}, {0, 0, 0, 128}, {255, 255, 255, 255}, {220, 255, 255, 255}, {188, 0, 0, 0}, {189, 0, 0, 0}};
        for (int[] place : places) {
            due("place " + place[0], with(file(), 120 + 42, place), 3);
        }
        int[][] counts = {{255, 255, 255, 255}, {255, 255, 255, 127}, {0, 0, 0, 128}, {6, 0, 0, 1}, {220, 255, 255, 255}};
        for (int[] count : counts) {
            due("count " + count[0], with(with(file(), 120 + 20, count), 36 + 18, count), 3);
        }
    }

    // "or does not begin with 0x04034B50, 20 and 0"
    private static void fault3HowItBegins() {
        for (int record : new int[] {0, 36}) {
            for (int k = 0; k < 8; k++) {
                due("byte " + k + " of the record", turned(file(), record + k, 1), 3);
                due("byte " + k + " of the record", turned(file(), record + k, 128), 3);
            }
        }
    }

    // "or does not say the same as the entry (method, the two numbers behind it, sum, both counts, the name)"
    private static void fault3NotTheSame() {
        for (int record : new int[] {0, 36}) {
            for (int k = 8; k < 28; k++) {
                due("byte " + k + " of the record", turned(file(), record + k, 1), 3);
                due("byte " + k + " of the record", turned(file(), record + k, 128), 3);
            }
            due("the record's name", turned(file(), record + 30, 1), 3);
            due("the record's method", turned(file(), record + 8, 8), 3);
        }
        for (int entry : new int[] {73, 120}) {
            for (int k = 12; k < 28; k++) {
                due("byte " + k + " of the entry", turned(file(), entry + k, 1), 3);
            }
            due("the entry's name", turned(file(), entry + 46, 1), 3);
            due("the entry's method", turned(file(), entry + 10, 8), 3);
        }
        byte[] longer = new Zip().part("abcd", "x").done();
        due("the last byte of the name", turned(longer, 33, 1), 3);
        due("the last byte of the name, entry", turned(longer, 35 + 49, 1), 3);
        due("a longer name in the record", with(longer, 26, 5), 3);
        due("a shorter name in the record", with(longer, 26, 3), 3);
    }

    // "or has no 0 behind the name's count"
    private static void fault3NoZeroBehindTheNamesCount() {
        for (int record : new int[] {0, 36}) {
            for (int k = 28; k < 30; k++) {
                due("byte " + k + " of the record", with(file(), record + k, 1), 3);
                due("byte " + k + " of the record", with(file(), record + k, 128), 3);
            }
        }
    }

    // "4 the name is none"
    private static void fault4NoName() {
        String longest = "abcdefghijklmnopqrstuvwx";
        for (String name : new String[] {"", "A", "/", "a/", "/a", "a//b", ".", "..", "a/..", longest + "y", "a\u0000", "\u00e1", "a-b"}) {
            due("no name: " + name, new Zip().part(name, "1").done(), 4);
            due("no name, the second one: " + name, new Zip().part("a", "").part(name, "1").done(), 4);
        }
        due("24 bytes", new Zip().part(longest, "1").done(), 0);
        due("300 bytes", new Zip().part("a".repeat(300), "1").done(), 4);
    }

    // "or there already"
    private static void fault4ThereAlready() {
        due("twice", new Zip().part("a", "1").part("a", "1").done(), 4);
        due("with one between", new Zip().part("a", "1").part("b", "").part("a", "2").done(), 4);
        due("only begins so", new Zip().part("a", "1").part("aa", "2").done(), 0);
        // A part that was there before the reading does not count.
        due("old", new Zip().part("old", "1").done(), 0);
        byte[] file = two().done();
        byte[] twice = Kit.join(Arrays.copyOf(file, 73), Arrays.copyOfRange(file, 73, 120), Arrays.copyOfRange(file, 73, 120),
            Arrays.copyOfRange(file, 167, 189));
        due("the same record twice", twice, 4);
    }

    private static byte[] streamed(byte[] stream, String content) {
        return new Zip().part(new Zip.Part("s", Kit.bytes(content)).stream(stream)).done();
    }

    // "5 its bytes are no stream (method 8)"
    private static void fault5NoStream() {
        byte[] right = new Bits().block(1, 1).fixed('a').fixed(256).done();
        due("a stream", streamed(right, "a"), 0);
        due("the bits end", streamed(Arrays.copyOf(right, 2), "a"), 5);
        due("no bytes", streamed(new byte[0], ""), 5);
        due("kind 3", streamed(new Bits().block(1, 3).done(), ""), 5);
        due("another number", streamed(new Bits().block(1, 0).align().number(0, 16).number(0, 16).done(), ""), 5);
        due("a code that is not right", streamed(new Bits().block(1, 2).coded(257, 1).done(), ""), 5);
        due("a symbol 286", streamed(new Bits().block(1, 1).fixed(286).done(), ""), 5);
        due("beyond the begin", streamed(new Bits().block(1, 1).fixed(257).distance(0).fixed(256).done(), "aaa"), 5);
        due("a byte behind", streamed(Kit.join(right, new byte[1]), "a"), 5);
        // Not only PRESSED makes a stream.
        due("stored", streamed(new Bits().block(1, 0).align().number(1, 16).number(65534, 16).number('a', 8).done(), "a"), 0);
        due("two blocks", streamed(new Bits().block(0, 1).fixed('a').fixed(256).block(1, 1).fixed(256).done(), "a"), 0);
        due("no bytes pressed", streamed(new byte[] {3, 0}, ""), 0);
    }

    // "or not as many as they are said to be"
    private static void fault5NotAsMany() {
        for (int which = 0; which < 2; which++) {
            for (int more : new int[] {-1, 1, 256, 65536, 1 << 24}) {
                Zip zip = two();
                zip.parts.get(which).said += more;
                due("part " + which + " said " + more + " more", zip.done(), 5);
            }
            Zip zip = two();
            zip.parts.get(which).said |= 0x80000000L;
            due("part " + which + " said negative", zip.done(), 5);
            zip.parts.get(which).said = 0;
            due("part " + which + " said none", zip.done(), 5);
        }
        Zip less = two();
        less.parts.get(0).size--;
        due("one byte less of it as it is", less.done(), 5);
        less = two();
        less.parts.get(0).size--;
        less.parts.get(0).said--;
        due("one byte less, as it is said: another sum", less.done(), 5);
        // "more than 4000 bytes said" comes behind: they are not as many.
        Zip many = two();
        many.parts.get(0).said = 4001;
        due("said to be 4001", many.done(), 5);
    }

    // "or have another sum"
    private static void fault5AnotherSum() {
        for (int which = 0; which < 2; which++) {
            for (int bit = 0; bit < 32; bit++) {
                Zip zip = two();
                zip.parts.get(which).sum ^= 1L << bit;
                due("part " + which + ", bit " + bit, zip.done(), 5);
            }
        }
        due("a changed byte", turned(file(), 31, 1), 5);
        due("the last one changed", turned(file(), 35, 128), 5);
        Zip none = new Zip().part("a", "");
        due("no bytes", none.done(), 0);
        none.parts.get(0).sum = 1;
        due("no bytes, but a sum", none.done(), 5);
    }

    private static Zip sixteen() {
        Zip zip = new Zip();
        for (int k = 0; k < 16; k++) {
            zip.part("p" + (char) ('a' + k), "");
        }
        return zip;
    }

    // "6 the 17th part"
    private static void fault6The17thPart() {
        Run run = new Run().with("old", "was").tape(sixteen().done());
        Kit.due("16", run.read(), 0);
        Kit.due("16 parts", run.about(0, 0), 16);
        due("17", sixteen().part("q", "").done(), 6);
        due("17, the first in order", sixteen().part("a", "").done(), 6);
        due("18", sixteen().part("q", "").part("r", "").done(), 6);
        due("the 18th is no name", sixteen().part("q", "").part("A", "").done(), 6);
    }

    // "more than 4000 bytes said"
    private static void fault6MoreThan4000() {
        byte[] more = Kit.filled("abc", 4001);
        due("4000 as they are", new Zip().part(new Zip.Part("a", Kit.filled("abc", 4000))).done(), 0);
        due("4001 as they are", new Zip().part(new Zip.Part("a", more)).done(), 6);
        due("4000 pressed", new Zip().fewest("a", Kit.filled("abc", 4000)).done(), 0);
        // Pressed they are no stream, since that has 4000 bytes at most.
        due("4001 pressed", new Zip().fewest("a", more).done(), 5);
        due("7899", new Zip().part(new Zip.Part("a", Kit.filled("abc", 7899))).done(), 6);
    }

    // "or 12000 in all"
    private static void fault6MoreThan12000() {
        byte[] most = Kit.filled("abc", 4000);
        Run run = new Run().tape(new Zip().fewest("a", most).fewest("b", most).fewest("c", most).done());
        Kit.due("12000", run.read(), 0);
        Kit.due("in all", run.about(3, 0), 12000);
        due("12000 and none", new Zip().fewest("a", most).fewest("b", most).fewest("c", most).part("d", "").done(), 0);
        due("12001", new Zip().fewest("a", most).fewest("b", most).fewest("c", most).part("d", "x").done(), 6);
        due("12001 the other way", new Zip().part("d", "x").fewest("a", most).fewest("b", most).fewest("c", most).done(), 6);
        due("12000 of four", new Zip().part("d", "x").fewest("a", Kit.filled("ab", 3999)).fewest("b", most).fewest("c", most).done(), 0);
        due("16000", new Zip().fewest("a", most).fewest("b", most).fewest("c", most).fewest("d", most).done(), 6);
        // What the parts had before does not count.
        Run full = new Run().with("x", most).with("y", most).with("z", most);
        Kit.due("12000 instead of 12000", full.tape(new Zip().fewest("a", most).fewest("b", most).fewest("c", most).done()).read(), 0);
        Kit.due("three", full.names(), "a b c");
    }

    // "3 to 6 of each before the next one"
    private static void faultsOfOneEntryBeforeTheNext() {
        Zip zip = new Zip().part("a", "1").part("b", "2");
        zip.parts.get(0).sum ^= 1;
        zip.parts.get(1).record = 5;
        due("5 of the first, 3 of the second", zip.done(), 5);
        zip.parts.get(0).sum ^= 1;
        due("3 of the second", zip.done(), 3);
        zip = new Zip().part("A", "1").part("b", "2");
        zip.parts.get(1).record = 5;
        due("4 of the first, 3 of the second", zip.done(), 4);
        zip = new Zip().part(new Zip.Part("a", Kit.filled("abc", 4001))).part("a", "2");
        due("6 of the first, 4 of the second", zip.done(), 6);
        zip = sixteen().part("q", "").part("pa", "");
        due("6 of the 17th, 4 of the 18th", zip.done(), 6);
    }

    // "FAULTS, the first one counts"
    private static void faultsOfOneEntryInOrder() {
        Zip zip = new Zip().part("A", "1");
        zip.parts.get(0).sum ^= 1;
        due("4 and 5", zip.done(), 4);
        due("3, 4 and 5", turned(zip.done(), 12, 1), 3);
        due("2, 3, 4 and 5", turned(turned(zip.done(), 12, 1), 32 + 8, 1), 2);
        byte[] all = turned(turned(zip.done(), 12, 1), 32 + 8, 1);
        due("1 to 5", turned(all, all.length - 1, 1), 1);
        zip = sixteen().part("q", "x");
        zip.parts.get(16).sum ^= 1;
        due("5 and 6", zip.done(), 5);
        zip.parts.get(16).name = Kit.bytes("pa");
        due("4, 5 and 6", zip.done(), 4);
        Zip.Part many = new Zip.Part("a", Kit.filled("abc", 4001));
        many.sum ^= 1;
        due("5 and more than 4000", new Zip().part(many).done(), 5);
    }

    // "IndexOutOfBoundsException, first, when there is no such byte (before write() there is none)"
    private static void rereadBeforeWrite() {
        Run run = new Run().with("a", "1");
        for (int at : new int[] {0, 1, -1, 21, Integer.MIN_VALUE, Integer.MAX_VALUE}) {
            Kit.dueThrow("reread(" + at + ", 0)", Kit.INDEX, () -> run.reread(at, 0));
        }
        run.tape(two().done()).read();
        Kit.dueThrow("what was read is not written", Kit.INDEX, () -> run.reread(0, 0));
        Kit.due("parts stay", run.names(), "a b");
    }

    private static void rereadNoSuchByte() {
        Run run = new Run().with("a", "1");
        int size = run.write();
        run.remove("a");
        run.tape("tape");
        for (int at : new int[] {-1, size, size + 1, 14005, 14006, Integer.MIN_VALUE, Integer.MAX_VALUE}) {
            Kit.dueThrow("reread(" + at + ", 0)", Kit.INDEX, () -> run.reread(at, 0));
        }
        Kit.due("no part came", run.about(0, 0), 0);
        run.dueTape("reread", Kit.bytes("tape"));
        Kit.due("the last byte", run.reread(size - 1, 0), 0);
        run.remove("a");
        Kit.due("the first byte", run.reread(0, 0), 0);
        Kit.due("the part came", run.names(), "a");
    }

    // "IllegalArgumentException when x is not 0 .. 255"
    private static void rereadAnotherX() {
        Run run = new Run().with("a", "1");
        int size = run.write();
        run.remove("a");
        run.tape("tape");
        for (int x : FAR) {
            Kit.dueThrow("x " + x, Kit.ARGUMENT, () -> run.reread(0, x));
            Kit.dueThrow("x " + x, Kit.ARGUMENT, () -> run.reread(size - 1, x));
        }
        Kit.due("no part came", run.about(0, 0), 0);
        run.dueTape("reread", Kit.bytes("tape"));
        Kit.due("x 255", run.reread(size - 1, 255), 1);
        Kit.due("x 0", run.reread(size - 1, 0), 0);
    }

    private static void rereadNamesTheIndexFirst() {
        Run run = new Run();
        Kit.dueThrow("nothing written", Kit.INDEX, () -> run.reread(0, 256));
        int size = run.write();
        for (int x : FAR) {
            Kit.dueThrow("before the first", Kit.INDEX, () -> run.reread(-1, x));
            Kit.dueThrow("behind the last", Kit.INDEX, () -> run.reread(size, x));
        }
    }

    // "with its byte at changed by x (the bits that are 1 in x are turned round): as for read"
    private static void rereadEachBit() {
        Run run = new Run().with("a", "plain").with("b", Kit.filled("abc", 9));
        Kit.due("how many", run.write(), 189);
        for (int x : new int[] {1, 2, 4, 8, 16, 32, 64, 128, 255}) {
            Kit.due("record's mark by " + x, run.reread(36, x), 3);
            Kit.due("a byte by " + x, run.reread(31, x), 5);
            Kit.due("an entry's zero by " + x, run.reread(81, x), 2);
            Kit.due("the end's last by " + x, run.reread(188, x), 1);
            Kit.due("a number in the entry by " + x, run.reread(73 + 14, x), 3);
            Kit.due("where the record is by " + x, run.reread(120 + 42, x), 3);
        }
        // The name A, in the entry alone.
        Kit.due("another name", run.reread(73 + 46, 32), 3);
    }

    // "(the file that was written last stays)", "(nothing is changed)"
    private static void rereadLeavesTheFile() {
        Run run = new Run().with("a", "plain").with("c", "new");
        run.write();
        String file = run.file();
        run.remove("c");
        run.add("b", "other");
        Kit.due("a fault", run.reread(20, 7), 3);
        Kit.due("parts stay", run.names(), "a b");
        Kit.due("none", run.reread(20, 0), 0);
        Kit.due("as written", run.names(), "a c");
        Kit.due("the file stays", run.file(), file);
    }

    private static void rereadWhatDoesNotMatter() {
        Run run = new Run().with("b", Kit.filled("abc", 9));
        int size = run.write();
        int last = size - 22 - 47 - 1;
        run.remove("b");
        // 46 bits are pressed: the last two of the sixth byte are not looked at.
        Kit.due("bits behind the last block", run.reread(last, 0xC0), 0);
        Kit.due("it is there", run.content(0), "abcabcabc");
        Kit.due("the file has its own byte", run.file(last), 0);
    }
}
