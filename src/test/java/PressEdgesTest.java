/** Promises 12 and 15 and PRESSED: a test of its own for each sentence that names an edge. */
public final class PressEdgesTest {
    public static void main(String[] args) {
        pressedOfNothing();
        otherwiseTheByte();
        twoAlikeAreNotEnough();
        threeAlikeAre();
        longestRow();
        moreThan258();
        nearestOfSeveral();
        longestThoughFurther();
        atEachPlace();
        amongThoseThatCome();
        upToTheLastByte();
        everyLength();
        everyDistance();
        zerosToTheEndOfTheByte();
        upTo4000();
        mostThatComesOut();
        moreThan4000();
        outOfNothing();
        outBeyond();
        outOfEveryValue();
        outIsWhatCameLast();
        shorterBehindALongerOne();
        Kit.end();
    }

    private static void due(String what, byte[] row, Bits want) {
        byte[] stream = want.fixed(256).done();
        Run run = new Run().tape(row);
        Kit.due(what + ": how many", run.press(), stream.length);
        run.dueTaken(what);
        Kit.due(what, Kit.bytes(run.out()), stream);
    }

    private static void due(String what, String row, Bits want) {
        due(what, Kit.bytes(row), want);
    }

    private static Bits begun() {
        return new Bits().block(1, 1);
    }

    private static Bits begun(String text) {
        return go(begun(), text);
    }

    private static Bits go(Bits bits, String text) {
        for (char c : text.toCharArray()) {
            bits.fixed(c);
        }
        return bits;
    }

    private static void pressedOfNothing() {
        due("nothing", "", begun());
        Run run = new Run();
        run.press();
        Kit.due("two bytes", run.out(), "\u0003\u0000");
    }

    // "otherwise the byte"
    private static void otherwiseTheByte() {
        for (int b = 0; b < 256; b++) {
            due("byte " + b, "" + (char) b, begun().fixed(b));
        }
        due("two of them", "ab", begun("ab"));
    }

    // "the longest row of 3 to 258 bytes": two are none
    private static void twoAlikeAreNotEnough() {
        due("two of two", "aa", begun("aa"));
        due("three of two letters", "aaa", begun("aaa"));
        due("two at the end", "abxab", begun("abxab"));
        due("two in the middle", "abxaby", begun("abxaby"));
    }

    private static void threeAlikeAre() {
        due("three", "abcabc", begun("abc").fixed(257).distance(2));
        due("three of one letter", "aaaa", begun("a").fixed(257).distance(0));
        due("three behind another", "abcxabcy", go(begun("abcx").fixed(257).distance(3), "y"));
    }

    private static void longestRow() {
        due("257", Kit.filled("a", 258), begun("a").fixed(284).number(30, 5).distance(0));
        due("258", Kit.filled("a", 259), begun("a").fixed(285).distance(0));
    }

    private static void moreThan258() {
        due("259", Kit.filled("a", 260), begun("a").fixed(285).distance(0).fixed('a'));
        due("260", Kit.filled("a", 261), begun("a").fixed(285).distance(0).fixed('a').fixed('a'));
        due("261", Kit.filled("a", 262), begun("a").fixed(285).distance(0).fixed(257).distance(0));
        due("516", Kit.filled("a", 517), begun("a").fixed(285).distance(0).fixed(285).distance(0));
        due("from afar", Kit.filled("abc", 3 + 258 + 2), begun("abc").fixed(285).distance(2).fixed('a').fixed('b'));
    }

    // "nearest of several"
    private static void nearestOfSeveral() {
        due("the nearest of two", "abcxabcyabc", go(begun("abcx").fixed(257).distance(3), "y").fixed(257).distance(3));
        due("the nearest of three", "abc1abc2abc3abc",
            go(go(begun("abc1").fixed(257).distance(3), "2").fixed(257).distance(3), "3").fixed(257).distance(3));
        // As long as it can be, there are more: the nearest of those.
        due("the nearest with 258", Kit.filled("a", 600),
            begun("a").fixed(285).distance(0).fixed(285).distance(0).length(83).distance(0));
    }

    private static void longestThoughFurther() {
        due("longer, further", "abcdxabcyabcd",
            go(begun("abcdx").fixed(257).distance(4).number(0, 1), "y").fixed(258).distance(6).number(0, 2));
        due("not from the begin on", "zabcdxabcyabcd",
            go(begun("zabcdx").fixed(257).distance(4).number(0, 1), "y").fixed(258).distance(6).number(0, 2));
        due("the furthest of three", "zabcdexabcdyabcwabcde", go(go(begun("zabcdex").fixed(258).distance(4).number(1, 1), "y")
            .fixed(257).distance(4).number(0, 1), "w").fixed(259).distance(7).number(2, 2));
        // A nearer one that is as long counts.
        due("as long, nearer", "abcdxabcdyabcd",
            go(begun("abcdx").fixed(258).distance(4).number(0, 1), "y").fixed(258).distance(4).number(0, 1));
    }

    // "at each place the longest row": though a byte first would lead to a longer one
    private static void atEachPlace() {
        due("no looking ahead", "abc-bcdef-abcdef", begun("abc-bcdef-").fixed(257).distance(6).number(1, 2)
            .fixed(257).distance(5).number(0, 1));
    }

    // "(they may be among those that come)", "from a place before it on"
    private static void amongThoseThatCome() {
        due("two over and over", "abababab", begun("ab").fixed(260).distance(1));
        due("begins before, ends behind", "xabcabcab", begun("xabc").fixed(259).distance(2));
    }

    private static void upToTheLastByte() {
        due("three at the very end", "abcdefabc", begun("abcdef").fixed(257).distance(4).number(1, 1));
        due("goes to the end, not beyond", "abcdabc", begun("abcd").fixed(257).distance(3));
    }

    private static void everyLength() {
        for (int n = 3; n <= 258; n++) {
            due("length " + n, Kit.join(Kit.filled("a", 1 + n), Kit.bytes("b")), begun("a").length(n).distance(0).fixed('b'));
        }
    }

    private static void everyDistance() {
        int[] first = {1, 2, 3, 4, 5, 7, 9, 13, 17, 25, 33, 49, 65, 97, 129, 193, 257, 385, 513, 769, 1025, 1537, 2049, 3073};
        for (int d = 4; d < first.length; d++) {
            int e = d / 2 - 1;
            for (int distance : new int[] {first[d], Math.min(first[d] + (1 << e) - 1, 3997)}) {
                // Three bytes that come once, so many others, and the three again.
                byte[] row = Kit.join(Kit.bytes("xyz"), Kit.filled("a", distance - 3), Kit.bytes("xyz"));
                Bits want = begun("xyz");
                if (distance - 3 > 3) {
                    want = pressedRow(want.fixed('a'), distance - 4);
                } else {
                    want = go(want, "a".repeat(distance - 3));
                }
                due("distance " + distance, row, want.fixed(257).distance(d).number(distance - first[d], e));
            }
        }
    }

    private static Bits pressedRow(Bits bits, int n) {
        int left = n;
        while (left >= 3) {
            int length = Math.min(left, 258);
            bits.length(length).distance(0);
            left -= length;
        }
        return go(bits, "a".repeat(left));
    }

    // "at last 256, and zeros to the end of the byte"
    private static void zerosToTheEndOfTheByte() {
        // Each byte above 143 has nine bits, so that the end comes to each place in a byte.
        for (int n = 0; n < 9; n++) {
            String row = "\u00f0\u00f1\u00f2\u00f3\u00f4\u00f5\u00f6\u00f7\u00f8".substring(0, n);
            due(n + " of nine bits", row, begun(row));
        }
        Run run = new Run().tape("\u00ff\u00ff");
        run.press();
        run.tape("\u00ff").press();
        run.tape("").press();
        Kit.due("zeros behind ones that were there", run.out(), "\u0003\u0000");
    }

    // "UnsupportedOperationException when it has more than 4000": 4000 are still right
    private static void upTo4000() {
        due("4000", Kit.filled("a", 4000), pressedRow(begun("a"), 3999));
        Run run = new Run();
        Kit.due("3999", run.tape(Kit.filled("abc", 3999)).press() > 0, true);
        Kit.due("4000", run.tape(Kit.filled("abc", 4000)).press() > 0, true);
    }

    private static void mostThatComesOut() {
        // No three bytes come again, and each has nine bits: with the three before and the end it is 4502 bytes.
        byte[] row = new byte[4000];
        for (int k = 0; k < row.length; k += 2) {
            row[k] = (byte) (167 + k / 2 % 89);
            row[k + 1] = (byte) (144 + k / 2 / 89);
        }
        Bits bits = begun();
        for (byte b : row) {
            bits.fixed(b & 255);
        }
        byte[] want = bits.fixed(256).done();
        Run run = new Run().tape(row);
        Kit.due("how many", run.press(), 4502);
        for (int at : new int[] {0, 1, 4499, 4500, 4501}) {
            Kit.due("byte " + at, run.out(at), want[at] & 255);
        }
        Kit.dueThrow("no more", Kit.INDEX, () -> run.out(4502));
    }

    // "(what came out before stays)"
    private static void moreThan4000() {
        for (int n : new int[] {4001, 4002, 8000}) {
            Run run = new Run().with("a", "1").tape("stays");
            run.press();
            String before = run.seen();
            run.tape(Kit.filled("abc", n));
            Kit.dueThrow("" + n, Kit.UNSUPPORTED, run::press);
            run.dueTaken("" + n);
            Kit.due(n + " changes nothing", run.seen(), before);
            Run none = new Run().tape(Kit.filled("abc", n));
            Kit.dueThrow("" + n, Kit.UNSUPPORTED, none::press);
            Kit.dueThrow("nothing came out", Kit.INDEX, () -> none.out(0));
        }
    }

    // "Byte i of what came out last. IndexOutOfBoundsException."
    private static void outOfNothing() {
        Run run = new Run();
        for (int i : new int[] {0, 1, -1, Integer.MIN_VALUE, Integer.MAX_VALUE}) {
            Kit.dueThrow("out(" + i + ")", Kit.INDEX, () -> run.out(i));
        }
        Kit.due("no bytes", run.tape("\u0003\u0000").expand(), 0);
        Kit.dueThrow("no byte came out", Kit.INDEX, () -> run.out(0));
        run.write();
        Kit.dueThrow("a file is nothing that came out", Kit.INDEX, () -> run.out(0));
    }

    private static void outBeyond() {
        Run run = new Run().tape("abc");
        int n = run.press();
        Kit.due("five", n, 5);
        run.out(0);
        run.out(4);
        for (int i : new int[] {-1, 5, 6, 4000, 4501, 4502, Integer.MIN_VALUE, Integer.MAX_VALUE}) {
            Kit.dueThrow("out(" + i + ")", Kit.INDEX, () -> run.out(i));
        }
        Kit.due("4000", run.tape(new Bits().block(1, 1).fixed('q').more(3999).fixed(256).done()).expand(), 4000);
        Kit.due("the last one", run.out(3999), 'q');
        Kit.dueThrow("behind the last one", Kit.INDEX, () -> run.out(4000));
    }

    private static void outOfEveryValue() {
        byte[] all = new byte[256];
        for (int k = 0; k < 256; k++) {
            all[k] = (byte) k;
        }
        Run run = new Run().tape(Kit.join(new byte[] {1, 0, 1, (byte) 255, (byte) 254}, all));
        Kit.due("256", run.expand(), 256);
        for (int k = 0; k < 256; k++) {
            Kit.due("value " + k, run.out(k), k);
        }
    }

    private static void outIsWhatCameLast() {
        Run run = new Run().tape("abc");
        run.press();
        String pressed = run.out();
        // What other calls press or expand does not come out.
        run.add("a", Kit.filled("xyz", 50));
        run.write();
        run.reread(0, 0);
        run.tape(new Zip().fewest("b", Kit.filled("q", 50)).done()).read();
        run.tape("abc").sum();
        run.check();
        Kit.due("it stays", run.out(), pressed);
        run.tape(pressed).expand();
        Kit.due("expanded", run.out(), "abc");
        run.tape("abc").press();
        Kit.due("pressed again", run.out(), pressed);
    }

    private static void shorterBehindALongerOne() {
        Run run = new Run().tape("abcdefgh");
        int longer = run.press();
        int shorter = run.tape("a").press();
        for (int i = shorter; i <= longer; i++) {
            int at = i;
            Kit.dueThrow("out(" + i + ")", Kit.INDEX, () -> run.out(at));
        }
    }
}
