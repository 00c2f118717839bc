/** Promises 4, 5, 6 and 7, A NAME and PARTS: a test of its own for each sentence that names an edge. */
public final class PartsEdgesTest {
    private static final String LONGEST = "abcdefghijklmnopqrstuvwx";
    private static final int[] FAR = {Integer.MIN_VALUE, -17, -1, 16, 17, 24, 256, Integer.MAX_VALUE};

    public static void main(String[] args) {
        nameOf1To24Bytes();
        bytesOfAName();
        piecesOfAName();
        noPieceIsDotsAlone();
        sixteenParts();
        roomAfterOneIsGone();
        aNameOfItsOwn();
        bytesOfOnePart();
        bytesInAll();
        thoseThatItHadDoNotCount();
        orderOfNames();
        shorterBeforeOneThatGoesOn();
        addWithoutBytes();
        addRefusesAnotherN();
        addNamesTheArgumentFirst();
        removeOfEachPlace();
        removeOfWhatIsNotThere();
        removeOfNoName();
        aboutDoesNotLookAtI();
        aboutOfNoPart();
        aboutAnotherWhat();
        byteOfTheNameAndBehindIt();
        byteOfNoByte();
        byteOfNoPart();
        byteOfEveryValue();
        Kit.end();
    }

    private static void right(String name) {
        Run run = new Run();
        Kit.due("add " + name, run.add(name, "content"), 1);
        Kit.due("its name", run.name(0), name);
        Kit.due("its bytes", run.content(0), "content");
        run.dueTaken("add " + name);
        Kit.due("remove " + name, run.remove(name), true);
        Kit.due("read " + name, run.tape(new Zip().part(name, "content").done()).read(), 0);
        Kit.due("read name", run.names(), name);
    }

    private static void wrong(String name) {
        Run run = new Run().with("x", "1");
        Kit.dueThrow("add '" + name + "'", Kit.ARGUMENT, () -> run.add(name, "content"));
        run.dueTaken("add '" + name + "'");
        Kit.due("remove '" + name + "'", run.remove(name), false);
        run.dueTaken("remove '" + name + "'");
        Kit.due("read '" + name + "'", run.tape(new Zip().part(name, "content").done()).read(), 4);
        Kit.due("left", run.seen(), "1 parts, 1 bytes\nx: 1 (0)\nfile: \nout: \nfaults: ");
    }

    // "A NAME is 1 to 24 bytes"
    private static void nameOf1To24Bytes() {
        wrong("");
        right("a");
        right("ab");
        right(LONGEST.substring(1));
        right(LONGEST);
        wrong(LONGEST + "y");
        wrong(LONGEST + "yz");
        right("a/b/c/d/e/f/g/h/i/j/k/lm");
        wrong("a/b/c/d/e/f/g/h/i/j/k/l/m");
        wrong(LONGEST.repeat(3));
    }

    // "bytes 47 (/) between them; .. one byte or more of a .. z, 0 .. 9, 46 (.), 95 (_)"
    private static void bytesOfAName() {
        for (int b = 0; b < 256; b++) {
            boolean isLetter = b >= 'a' && b <= 'z' || b >= '0' && b <= '9' || b == '_';
            due("" + (char) b, isLetter);
            due("x" + (char) b, isLetter || b == '.');
            due((char) b + "x", isLetter || b == '.');
            due("x" + (char) b + "y", isLetter || b == '.' || b == '/');
        }
    }

    private static void due(String name, boolean isRight) {
        if (isRight) {
            right(name);
        } else {
            wrong(name);
        }
    }

    // "PIECES with bytes 47 (/) between them; a piece is one byte or more"
    private static void piecesOfAName() {
        right("a/b");
        right("a/b/c");
        right("_/0/.z");
        wrong("/");
        wrong("//");
        wrong("/a");
        wrong("a/");
        wrong("a//b");
        wrong("a/b//c");
        wrong("a/b/");
        wrong("/a/b");
    }

    // "and not . or .. alone"
    private static void noPieceIsDotsAlone() {
        for (String dots : new String[] {".", ".."}) {
            wrong(dots);
            wrong(dots + "/a");
            wrong("a/" + dots);
            wrong("a/" + dots + "/b");
            wrong(dots + "/" + dots);
            right(dots + "a");
            right("a" + dots);
            right("a/" + dots + "a");
            right("a" + dots + "/b");
            right(dots + "_");
            right(dots + "0" + dots);
        }
        right("...");
        right("....");
        right("a/...");
        right(".../a");
        right("a..b");
    }

    private static Run sixteen() {
        Run run = new Run();
        for (int k = 1; k <= 16; k++) {
            Kit.due("part " + k, run.add("p" + (char) ('a' + k), "" + k % 10), k);
        }
        return run;
    }

    // "PARTS are at most 16"
    private static void sixteenParts() {
        Run run = sixteen();
        String before = run.seen();
        for (String name : new String[] {"a", "pa", "pm0", "z"}) {
            Kit.dueThrow("the 17th", Kit.UNSUPPORTED, () -> run.add(name, ""));
            run.dueTaken("the 17th");
        }
        Kit.due("the 16 are left", run.seen(), before);
        // One that is there already is no 17th.
        Kit.due("one of them", run.add("pc", "new"), 16);
        Kit.due("how many", run.about(0, 0), 16);
        Kit.due("it is new", run.content(1), "new");
    }

    private static void roomAfterOneIsGone() {
        Run run = sixteen();
        Kit.due("gone", run.remove("pb"), true);
        Kit.due("room", run.add("a", "first"), 16);
        Kit.due("it is the first", run.name(0), "a");
        Kit.dueThrow("no more", Kit.UNSUPPORTED, () -> run.add("pb", ""));
    }

    // "each with a name of its own": "instead of those that it had, if it is there"
    private static void aNameOfItsOwn() {
        Run run = new Run().with("a", "one").with("b", "two").with("c", "three");
        Kit.due("shorter", run.add("b", "2"), 3);
        Kit.due("shorter", run.seen(), "3 parts, 9 bytes\na: one (0)\nb: 2 (0)\nc: three (0)\nfile: \nout: \nfaults: ");
        Kit.due("longer", run.add("b", "2222222"), 3);
        Kit.due("longer", run.seen(), "3 parts, 15 bytes\na: one (0)\nb: 2222222 (0)\nc: three (0)\nfile: \nout: \nfaults: ");
        Kit.due("none", run.add("b", ""), 3);
        Kit.due("none", run.seen(), "3 parts, 8 bytes\na: one (0)\nb:  (0)\nc: three (0)\nfile: \nout: \nfaults: ");
        Kit.due("a name that only begins so", run.add("bb", "4"), 4);
    }

    // "at most 4000 bytes"
    private static void bytesOfOnePart() {
        Run run = new Run();
        Kit.due("4000", run.add("a", Kit.filled("ab", 4000)), 1);
        Kit.due("it has", run.about(2, 0), 4000);
        Kit.due("its last byte", run.byteOf(0, 4000), 'b');
        Kit.dueThrow("4001 in a new one", Kit.UNSUPPORTED, () -> run.add("b", Kit.filled("ab", 4001)));
        run.dueTaken("4001 in a new one");
        Kit.dueThrow("4001 in the old one", Kit.UNSUPPORTED, () -> run.add("a", Kit.filled("xy", 4001)));
        run.dueTaken("4001 in the old one");
        Kit.dueThrow("7999", Kit.UNSUPPORTED, () -> run.add("a", Kit.filled("xy", 7999)));
        Kit.due("how many", run.about(0, 0), 1);
        Kit.due("it still has", run.about(2, 0), 4000);
        Kit.due("in all", run.about(3, 0), 4000);
        Kit.due("its first byte", run.byteOf(0, 1), 'a');
        Kit.due("its last byte", run.byteOf(0, 4000), 'b');
        // The name's bytes do not count.
        Run named = new Run();
        Kit.due("4000 with a long name", named.add(LONGEST, Kit.filled("ab", 4000)), 1);
        Kit.dueThrow("4001 with a long name", Kit.UNSUPPORTED, () -> named.add(LONGEST, Kit.filled("ab", 4001)));
        Kit.due("none", named.add(LONGEST, ""), 1);
        Kit.due("it has none", named.about(2, 0), 0);
    }

    private static Run twelveThousand() {
        byte[] most = Kit.filled("ab", 4000);
        return new Run().with("a", most).with("b", most).with("c", Kit.filled("ab", 3999));
    }

    // "12000 in all"
    private static void bytesInAll() {
        Run run = twelveThousand();
        Kit.dueThrow("12001", Kit.UNSUPPORTED, () -> run.add("d", "xy"));
        run.dueTaken("12001");
        Kit.due("nothing came", run.about(0, 0), 3);
        Kit.due("11999", run.about(3, 0), 11999);
        Kit.due("12000", run.add("d", "x"), 4);
        Kit.due("in all", run.about(3, 0), 12000);
        Kit.dueThrow("12001 by a new one", Kit.UNSUPPORTED, () -> run.add("e", "y"));
        Kit.due("none is still right", run.add("e", ""), 5);
        Kit.due("its byte", run.byteOf(3, 1), 'x');
    }

    // "(in it, or in all; those that it had do not count)"
    private static void thoseThatItHadDoNotCount() {
        Run run = twelveThousand();
        run.add("d", "x");
        Kit.dueThrow("one more in d", Kit.UNSUPPORTED, () -> run.add("d", "yy"));
        Kit.dueThrow("one more in c", Kit.UNSUPPORTED, () -> run.add("c", Kit.filled("z", 4000)));
        Kit.due("c has what it had", run.about(2, 2), 3999);
        Kit.due("c's last byte", run.byteOf(2, 3999), 'a');
        Kit.due("d has what it had", run.byteOf(3, 1), 'x');
        Kit.due("as many in a", run.add("a", Kit.filled("z", 4000)), 4);
        Kit.due("they are new", run.byteOf(0, 4000), 'z');
        Kit.due("b stays", run.byteOf(1, 1), 'a');
        Kit.due("as many in c", run.add("c", Kit.filled("q", 3999)), 4);
        Kit.due("as many in d", run.add("d", "y"), 4);
        Kit.due("in all", run.about(3, 0), 12000);
        Kit.due("less in a", run.add("a", Kit.filled("z", 3999)), 4);
        Kit.due("then one more in d", run.add("d", "yy"), 4);
        Kit.due("12000 again", run.about(3, 0), 12000);
        Kit.due("b is gone", run.remove("b"), true);
        Kit.due("8000", run.about(3, 0), 8000);
        Kit.dueThrow("4001 are too many in one still", Kit.UNSUPPORTED, () -> run.add("b", Kit.filled("z", 4001)));
        Kit.due("room for 4000", run.add("b", Kit.filled("z", 4000)), 4);
    }

    // "in the order of their names, byte by byte"
    private static void orderOfNames() {
        Run run = new Run();
        for (String name : "z a b/a b_a ba b0a b.a b9a 9 0 _ .a aa ab".split(" ")) {
            run.add(name, name);
        }
        Kit.due("order", run.names(), ".a 0 9 _ a aa ab b.a b/a b0a b9a b_a ba z");
        for (int i = 0; i < 14; i++) {
            Kit.due("bytes go with the name", run.content(i), run.name(i));
        }
    }

    // "a shorter one before one that goes on"
    private static void shorterBeforeOneThatGoesOn() {
        Run run = new Run();
        for (String name : new String[] {"abc", "ab.", "a", "abcd", "ab", LONGEST, LONGEST.substring(0, 23)}) {
            run.add(name, "");
        }
        Kit.due("order", run.names(), "a ab ab. abc abcd abcdefghijklmnopqrstuvw " + LONGEST);
        Run other = new Run().with("a", "").with("a.", "").with("a..", "");
        Kit.due("the other way round", other.names(), "a a. a..");
    }

    // "its first n bytes are a part's name, the others its bytes"
    private static void addWithoutBytes() {
        Run run = new Run();
        Kit.due("all are the name", run.tape("abc").add(3), 1);
        Kit.due("no bytes", run.about(2, 0), 0);
        Kit.due("one is not", run.tape("abc").add(2), 2);
        Kit.due("one is the name", run.tape("abc").add(1), 3);
        Kit.due("all three", run.seen(), "3 parts, 3 bytes\na: bc (0)\nab: c (0)\nabc:  (0)\nfile: \nout: \nfaults: ");
    }

    // "IllegalArgumentException when the tape has not n bytes, or they are no name"
    private static void addRefusesAnotherN() {
        for (int n : new int[] {4, 5, 24, 8000, Integer.MAX_VALUE, 0, -1, -3, Integer.MIN_VALUE}) {
            Run run = new Run().with("abc", "old").tape("abc");
            Kit.dueThrow("n " + n, Kit.ARGUMENT, () -> run.add(n));
            run.dueTaken("n " + n);
            Kit.due("n " + n, run.seen(), "1 parts, 3 bytes\nabc: old (0)\nfile: \nout: \nfaults: ");
        }
        // What stood on the tape that was taken does not count.
        Run run = new Run().tape("abcdef");
        run.sum();
        run.tape("xy");
        Kit.dueThrow("n 3 of two", Kit.ARGUMENT, () -> run.add(3));
        Kit.dueThrow("n 1 of none", Kit.ARGUMENT, () -> run.add(1));
        Kit.due("none came", run.about(0, 0), 0);
    }

    // "where several exceptions that a call names fit, it is the one that it names first"
    private static void addNamesTheArgumentFirst() {
        Run run = sixteen();
        Kit.dueThrow("no name, the 17th", Kit.ARGUMENT, () -> run.add("A", ""));
        Kit.dueThrow("no name, 4001", Kit.ARGUMENT, () -> run.add("a/", Kit.filled("x", 4001)));
        run.tape(Kit.filled("x", 5000));
        Kit.dueThrow("n beyond, and too many", Kit.ARGUMENT, () -> run.add(5001));
        Run full = twelveThousand();
        Kit.dueThrow("no name, 12001", Kit.ARGUMENT, () -> full.add("..", "xy"));
    }

    // "that part is gone: whether it was there"
    private static void removeOfEachPlace() {
        for (int i = 0; i < 3; i++) {
            Run run = new Run().with("a", "1").with("b", "22").with("c", "333");
            String[] names = {"a", "b", "c"};
            String[] left = {"2 parts, 5 bytes\nb: 22 (0)\nc: 333 (0)", "2 parts, 4 bytes\na: 1 (0)\nc: 333 (0)",
                "2 parts, 3 bytes\na: 1 (0)\nb: 22 (0)"};
            Kit.due("there", run.remove(names[i]), true);
            Kit.due("left", run.seen(), left[i] + "\nfile: \nout: \nfaults: ");
            Kit.dueThrow("no third part", Kit.INDEX, () -> run.about(1, 2));
            Kit.due("not there any more", run.remove(names[i]), false);
            Kit.due("it can come again", run.add(names[i], "new"), 3);
        }
        Run one = new Run().with("a", "1");
        Kit.due("the only one", one.remove("a"), true);
        Kit.due("none", one.about(0, 0), 0);
        Kit.due("no bytes", one.about(3, 0), 0);
    }

    private static void removeOfWhatIsNotThere() {
        Run run = new Run().with("ab", "1").with("ab.rels", "<rels/>").with(LONGEST, "2");
        String before = run.seen();
        for (String name : new String[] {"a", "b", "abc", "ab.", "ab.rel", "ab.relsx", "ab/rels", LONGEST.substring(0, 23), "zz"}) {
            Kit.due("not there: " + name, run.remove(name), false);
            run.dueTaken("not there: " + name);
        }
        Kit.due("nothing is gone", run.seen(), before);
        // Its relations are parts of their own, and stay.
        Kit.due("ab", run.remove("ab"), true);
        Kit.due("left", run.names(), "ab.rels " + LONGEST);
    }

    // "(false, too, if it is no name)"
    private static void removeOfNoName() {
        Run run = new Run().with("a", "1").with(LONGEST, "2");
        String before = run.seen();
        for (String name : new String[] {"", "A", "a/", "/a", "a\u0000", " a", "a ", ".", "..", LONGEST + "y", LONGEST + "/"}) {
            Kit.due("no name: " + name, run.remove(name), false);
            run.dueTaken("no name: " + name);
        }
        Kit.due("8000 bytes", run.tape(Kit.filled("a", 8000)).remove(), false);
        Kit.due("nothing is gone", run.seen(), before);
    }

    // "(0 and 3 do not look at i)"
    private static void aboutDoesNotLookAtI() {
        Run none = new Run();
        Run run = new Run().with("a", "12").with("b", "3");
        for (int i : FAR) {
            Kit.due("0 of none", none.about(0, i), 0);
            Kit.due("3 of none", none.about(3, i), 0);
            Kit.due("0", run.about(0, i), 2);
            Kit.due("3", run.about(3, i), 3);
        }
    }

    // "or when there is no such part (1 and 2)"
    private static void aboutOfNoPart() {
        Run run = new Run().with("a", "12").with(LONGEST, Kit.filled("x", 4000));
        Kit.due("first name", run.about(1, 0), 1);
        Kit.due("first size", run.about(2, 0), 2);
        Kit.due("last name", run.about(1, 1), 24);
        Kit.due("last size", run.about(2, 1), 4000);
        for (int what = 1; what <= 2; what++) {
            int asked = what;
            Kit.dueThrow(what + " of 2", Kit.INDEX, () -> run.about(asked, 2));
            for (int i : FAR) {
                Kit.dueThrow(what + " of " + i, Kit.INDEX, () -> run.about(asked, i));
            }
        }
        Run full = sixteen();
        Kit.due("the 16th", full.about(2, 15), 1);
        Kit.dueThrow("no 17th", Kit.INDEX, () -> full.about(2, 16));
    }

    // "IndexOutOfBoundsException for another what"
    private static void aboutAnotherWhat() {
        Run run = new Run().with("a", "12");
        for (int what : new int[] {-1, 4, 5, 256, 259, Integer.MIN_VALUE, Integer.MAX_VALUE}) {
            Kit.dueThrow("what " + what, Kit.INDEX, () -> run.about(what, 0));
            Kit.dueThrow("what " + what + ", no part", Kit.INDEX, () -> run.about(what, 1));
        }
    }

    // "Byte k of the i-th part's name; behind it its bytes."
    private static void byteOfTheNameAndBehindIt() {
        Run run = new Run().with("ab", "12").with(LONGEST, "3").with("z", "");
        int[] want = {'a', 'b', '1', '2'};
        for (int k = 0; k < 4; k++) {
            Kit.due("byte " + k, run.byteOf(0, k), want[k]);
        }
        Kit.due("the name's last", run.byteOf(1, 23), 'x');
        Kit.due("behind it", run.byteOf(1, 24), '3');
        Kit.due("the only one", run.byteOf(2, 0), 'z');
    }

    // "IndexOutOfBoundsException when there is no such part or byte"
    private static void byteOfNoByte() {
        Run run = new Run().with("ab", "12").with("c", "").with("d", "345");
        for (int k : new int[] {-1, 4, 5, 24, 27, Integer.MIN_VALUE, Integer.MAX_VALUE}) {
            Kit.dueThrow("byte " + k + " of 4", Kit.INDEX, () -> run.byteOf(0, k));
        }
        Kit.dueThrow("no bytes behind the name", Kit.INDEX, () -> run.byteOf(1, 1));
        Kit.due("the last one", run.byteOf(2, 3), '5');
        Kit.dueThrow("behind the last one", Kit.INDEX, () -> run.byteOf(2, 4));
        Run most = new Run().with(LONGEST, Kit.filled("ab", 4000));
        Kit.due("the 4000th", most.byteOf(0, 4023), 'b');
        Kit.dueThrow("no 4001st", Kit.INDEX, () -> most.byteOf(0, 4024));
    }

    private static void byteOfNoPart() {
        Run run = new Run().with("ab", "12");
        Kit.dueThrow("part 1", Kit.INDEX, () -> run.byteOf(1, 0));
        for (int i : FAR) {
            Kit.dueThrow("part " + i, Kit.INDEX, () -> run.byteOf(i, 0));
        }
        run.remove("ab");
        Kit.dueThrow("gone", Kit.INDEX, () -> run.byteOf(0, 0));
    }

    private static void byteOfEveryValue() {
        byte[] all = new byte[256];
        for (int k = 0; k < 256; k++) {
            all[k] = (byte) k;
        }
        Run run = new Run().with("a", all);
        for (int k = 0; k < 256; k++) {
            Kit.due("value " + k, run.byteOf(0, 1 + k), k);
        }
    }
}
