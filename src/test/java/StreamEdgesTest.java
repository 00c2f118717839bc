import java.util.Arrays;

/** Promise 13, A STREAM and its faults: a test of its own for each sentence that names an edge. */
public final class StreamEdgesTest {
    public static void main(String[] args) {
        theBitsEndInABlocksHead();
        kind3();
        storedPassesTheBitsOfTheByte();
        storedOfNothing();
        storedBitsEnd();
        storedOtherNumber();
        fixedBytes();
        fixedBitsEnd();
        symbols286And287();
        lengths();
        length258Twice();
        lengthsBitsEnd();
        distances();
        distances30And31();
        distancesBitsEnd();
        amongThoseThatCome();
        fromABlockBefore();
        howCodesAreTold();
        codesOf15Bits();
        mostSymbolsOfTheFirst();
        mostSymbolsOfTheSecond();
        headsBitsEnd();
        orderOfTheThird();
        lessOfTheThird();
        lessOfTheThirdBehindMore();
        thirdThatIsNotRight();
        thirdOfOneSymbol();
        sixteenWithNoneBefore();
        sixteenTimes();
        sixteenAcrossBothCodes();
        seventeenTimes();
        eighteenTimes();
        moreThanAllSymbols();
        firstThatIsNotRight();
        firstWithout256();
        firstOfOneSymbol();
        secondThatIsNotRight();
        secondOfNone();
        secondOfOneSymbol();
        beyondTheBegin();
        upTo4000Bytes();
        moreThan4000ByAByte();
        moreThan4000ByALength();
        moreThan4000Stored();
        bytesBehindTheLastBlock();
        bitsBehindTheLastBlock();
        blocksBehindOneThatIsNotLast();
        aFullTape();
        nothingComesOutOfAFault();
        Kit.end();
    }

    /** What comes behind a first block of so many bytes. */
    private interface Shape {
        void put(Bits bits, int before);
    }

    private static String due(String what, byte[] stream, int want) {
        Run run = new Run().tape("before");
        run.press();
        String before = run.out();
        Kit.due(what, run.tape(stream).expand(), want);
        run.dueTaken(what);
        if (want < 0) {
            Kit.due(what + ": what came out before stays", run.out(), before);
            Kit.due("a right one behind it", run.tape("\u0001\u0002\u0000\u00fd\u00ffhi").expand(), 2);
            return "";
        }
        if (want > 300) {
            Kit.dueThrow(what + ": no more", Kit.INDEX, () -> run.out(want));
            return "";
        }
        return run.out();
    }

    private static void due(String what, Bits stream, String want) {
        Kit.due(what, due(what, stream.done(), want.length()), want);
    }

    // So many bytes of nine bits, so that what comes behind them begins at another bit.
    private static Bits begun(int before) {
        Bits bits = new Bits().block(0, 1);
        for (int k = 0; k < before; k++) {
            bits.fixed(200);
        }
        return bits.fixed(256);
    }

    private static byte[] ending(Shape shape, int less) {
        for (int before = 0; before < 8; before++) {
            Bits bits = begun(before);
            shape.put(bits, before);
            if ((bits.size() - less) % 8 == 0) {
                return Arrays.copyOf(bits.done(), (bits.size() - less) / 8);
            }
        }
        throw new IllegalStateException("it ends nowhere at a byte's end");
    }

    /** The bits end just behind this: then the answer is as given; and with one bit less it is fault 1. */
    private static void dueJust(String what, int want, Shape shape) {
        due(what, ending(shape, 0), want);
        due(what + ", one bit less", ending(shape, 1), -1);
    }

    // "1 the bits end"
    private static void dueEnds(String what, Shape shape) {
        due(what, ending(shape, 0), -1);
    }

    private static void theBitsEndInABlocksHead() {
        due("no bits", new byte[0], -1);
        dueEnds("behind a block", (b, n) -> { });
        dueEnds("behind the first bit", (b, n) -> b.number(1, 1));
        dueEnds("within the kind", (b, n) -> b.number(1, 1).number(1, 1));
        dueEnds("behind kind 0", (b, n) -> b.block(1, 0));
        dueEnds("behind kind 1", (b, n) -> b.block(1, 1));
        dueEnds("behind kind 2", (b, n) -> b.block(1, 2));
    }

    // "2 kind 3"
    private static void kind3() {
        dueJust("kind 3", -2, (b, n) -> b.block(1, 3));
        dueJust("kind 3, not the last", -2, (b, n) -> b.block(0, 3));
        due("kind 3 at once", new byte[] {7}, -2);
        due("kind 3, bytes behind", new byte[] {7, 0, 0}, -2);
    }

    // "the bits that are left of the byte are passed"
    private static void storedPassesTheBitsOfTheByte() {
        for (int before = 0; before < 8; before++) {
            for (int passed = 0; passed < 2; passed++) {
                Bits bits = begun(before).block(1, 0);
                while (bits.size() % 8 != 0) {
                    bits.number(passed, 1);
                }
                bits.number(2, 16).number(65533, 16).number('h', 8).number('i', 8);
                due("passed behind " + before, bits, "\u00c8".repeat(before) + "hi");
            }
        }
    }

    private static void storedOfNothing() {
        due("nothing", new byte[] {1, 0, 0, (byte) 255, (byte) 255}, 0);
        due("nothing, and a block behind it", new byte[] {0, 0, 0, (byte) 255, (byte) 255, 3, 0}, 0);
        due("nothing, and no block behind it", new byte[] {0, 0, 0, (byte) 255, (byte) 255}, -1);
    }

    private static void storedBitsEnd() {
        byte[] whole = {1, 2, 0, (byte) 253, (byte) 255, 'h', 'i'};
        Kit.due("whole", due("whole", whole, 2), "hi");
        for (int n = 1; n < whole.length; n++) {
            due("the first " + n, Arrays.copyOf(whole, n), -1);
        }
        due("65535 bytes that are not there", new byte[] {1, (byte) 255, (byte) 255, 0, 0, 'h', 'i'}, -1);
    }

    // "3 L's other number is another one"
    private static void storedOtherNumber() {
        for (int bit = 0; bit < 16; bit++) {
            int other = 65534 ^ 1 << bit;
            due("bit " + bit, new Bits().block(1, 0).align().number(1, 16).number(other, 16).number('h', 8).done(), -3);
            due("bit " + bit + ", no bytes", new Bits().block(1, 0).align().number(1, 16).number(other, 16).done(), -3);
            due("bit " + bit + ", half", Arrays.copyOf(new Bits().block(1, 0).align().number(1, 16).number(other, 16).done(), 4), -1);
        }
        due("the same number", new Bits().block(1, 0).align().number(1, 16).number(1, 16).done(), -3);
    }

    // "0 .. 255 are bytes; 256 is the block's end"
    private static void fixedBytes() {
        Bits bits = new Bits().block(1, 1);
        StringBuilder want = new StringBuilder();
        for (int b = 0; b < 256; b++) {
            bits.fixed(b);
            want.append((char) b);
        }
        due("all bytes", bits.fixed(256), want.toString());
        due("no byte", new Bits().block(1, 1).fixed(256), "");
        for (int b : new int[] {0, 143, 144, 255}) {
            due("byte " + b, new Bits().block(1, 1).fixed(b).fixed(256), "" + (char) b);
        }
    }

    private static void fixedBitsEnd() {
        dueEnds("behind a byte of 8 bits", (b, n) -> b.block(1, 1).fixed(143));
        dueEnds("in a byte of 8 bits", (b, n) -> b.block(1, 1).code("1011111"));
        dueEnds("in a byte of 9 bits", (b, n) -> b.block(1, 1).code("11001000"));
        dueEnds("in the end", (b, n) -> b.block(1, 1).code("000000"));
        dueEnds("behind a block that is not the last", (b, n) -> b.block(0, 1).fixed(256));
    }

    // "or a symbol 286, 287"
    private static void symbols286And287() {
        dueJust("286", -5, (b, n) -> b.block(1, 1).fixed(65).fixed(286));
        dueJust("287", -5, (b, n) -> b.block(1, 1).fixed(65).fixed(287));
        dueEnds("285 is none of them", (b, n) -> b.block(1, 1).fixed(65).fixed(285));
        due("286, and all that a length needs", new Bits().block(1, 1).fixed(65).fixed(286).distance(0).fixed(256).done(), -5);
    }

    // "3 + k if k is below 8, 258 if it is 28, otherwise with e = k / 4 - 1 it is 3 + ((4 + k % 4) << e) and a number of e bits"
    private static final int[] FIRST_LENGTHS = {
        3, 4, 5, 6, 7, 8, 9, 10, 11, 13, 15, 17, 19, 23, 27, 31, 35, 43, 51, 59, 67, 83, 99, 115, 131, 163, 195, 227, 258
    };

    private static int bitsOf(int k) {
        return k < 8 || k == 28 ? 0 : k / 4 - 1;
    }

    private static void lengths() {
        for (int k = 0; k <= 28; k++) {
            for (int more : new int[] {0, (1 << bitsOf(k)) - 1}) {
                due("symbol " + (257 + k), new Bits().block(1, 1).fixed('a').fixed(257 + k).number(more, bitsOf(k)).distance(0)
                    .fixed(256), "a".repeat(1 + FIRST_LENGTHS[k] + more));
            }
        }
        // The number's lowest bit comes first.
        due("a number of 5 bits", new Bits().block(1, 1).fixed('a').fixed(281).code("10000").distance(0).fixed(256), "a".repeat(133));
    }

    private static void length258Twice() {
        String want = "a".repeat(259);
        due("as 285", new Bits().block(1, 1).fixed('a').fixed(285).distance(0).fixed(256), want);
        due("as 284 and 31", new Bits().block(1, 1).fixed('a').fixed(284).number(31, 5).distance(0).fixed(256), want);
        due("284 and 30", new Bits().block(1, 1).fixed('a').fixed(284).number(30, 5).distance(0).fixed(256), "a".repeat(258));
    }

    private static void lengthsBitsEnd() {
        for (int k = 0; k <= 28; k++) {
            int symbol = 257 + k;
            int e = bitsOf(k);
            dueEnds("behind " + symbol, (b, n) -> b.block(1, 1).fixed('a').fixed(symbol));
            dueEnds("behind the number of " + symbol, (b, n) -> b.block(1, 1).fixed('a').fixed(symbol).number(0, e));
            dueEnds("in the distance of " + symbol, (b, n) -> b.block(1, 1).fixed('a').fixed(symbol).number(0, e).number(0, 4));
            if (e > 0) {
                dueEnds("in the number of " + symbol, (b, n) -> b.block(1, 1).fixed('a').fixed(symbol).number(0, e - 1));
            }
        }
    }

    // "the DISTANCE is 1 + d if d is below 4, otherwise with e = d / 2 - 1 it is 1 + ((2 + d % 2) << e) and a number of e bits"
    private static final int[] FIRST_DISTANCES = {
        1, 2, 3, 4, 5, 7, 9, 13, 17, 25, 33, 49, 65, 97, 129, 193, 257, 385, 513, 769, 1025, 1537, 2049, 3073, 4097, 6145, 8193,
        12289, 16385, 24577
    };

    /** An x and so many bytes less one of a. */
    private static Bits xThenA(int n) {
        Bits bits = new Bits().block(1, 1).fixed('x');
        int left = n - 1;
        while (left > 0 && (left < 4 || bits.size() < 16)) {
            bits.fixed('a');
            left--;
        }
        return left == 0 ? bits : bits.more(left);
    }

    private static void distances() {
        for (int d = 0; d < 30; d++) {
            int e = d < 4 ? 0 : d / 2 - 1;
            for (int more : new int[] {0, (1 << e) - 1}) {
                int distance = FIRST_DISTANCES[d] + more;
                if (distance < 3998) {
                    Run run = new Run().tape(xThenA(distance).fixed(257).distance(d).number(more, e).fixed(256).done());
                    Kit.due("from the begin on, " + distance, run.expand(), distance + 3);
                    Kit.due("its byte", run.out(distance), 'x');
                    Kit.due("the one before it", run.out(distance - 1), distance == 1 ? 'x' : 'a');
                    due("one less is there than " + distance, xThenA(distance - 1 > 0 ? distance - 1 : 1).fixed(257).distance(d)
                        .number(more, e).fixed(256).done(), distance == 1 ? 4 : -6);
                } else {
                    due("beyond, " + distance, xThenA(3990).fixed(257).distance(d).number(more, e).fixed(256).done(), -6);
                }
            }
        }
    }

    // "or 30, 31"
    private static void distances30And31() {
        dueJust("30", -5, (b, n) -> b.block(1, 1).fixed('a').fixed(257).distance(30));
        dueJust("31", -5, (b, n) -> b.block(1, 1).fixed('a').fixed(257).distance(31));
        dueEnds("29 is none of them", (b, n) -> b.block(1, 1).fixed('a').fixed(257).distance(29));
        dueJust("29 and its number", -6, (b, n) -> b.block(1, 1).fixed('a').fixed(257).distance(29).number(0, 13));
    }

    private static void distancesBitsEnd() {
        for (int d = 4; d < 30; d++) {
            int symbol = d;
            int e = d / 2 - 1;
            dueEnds("behind " + d, (b, n) -> b.block(1, 1).fixed('a').fixed(257).distance(symbol));
            dueEnds("in the number of " + d, (b, n) -> b.block(1, 1).fixed('a').fixed(257).distance(symbol).number(0, e - 1));
        }
    }

    // "(they may be among those that come)"
    private static void amongThoseThatCome() {
        due("from one back", new Bits().block(1, 1).fixed('a').fixed(260).distance(0).fixed(256), "aaaaaaa");
        due("from two back", new Bits().block(1, 1).fixed('a').fixed('b').fixed(259).distance(1).fixed(256), "abababa");
        due("just those before", new Bits().block(1, 1).fixed('a').fixed('b').fixed('c').fixed(257).distance(2).fixed(256), "abcabc");
        due("not all of those before", new Bits().block(1, 1).fixed('a').fixed('b').fixed('c').fixed('d').fixed(257).distance(3)
            .fixed(256), "abcdabc");
    }

    private static void fromABlockBefore() {
        due("from a fixed one", new Bits().block(0, 1).fixed('a').fixed('b').fixed('c').fixed(256).block(1, 1).fixed(257).distance(2)
            .fixed(256), "abcabc");
        due("from a stored one", new Bits().block(0, 0).align().number(3, 16).number(65532, 16).number('a', 8).number('b', 8)
            .number('c', 8).block(1, 1).fixed(257).distance(2).fixed(256), "abcabc");
    }

    // The third code of the blocks below: eight symbols of three bits, so that each has its place as its code.
    private static final int[] TOLD_BY = {0, 1, 2, 3, 4, 16, 17, 18};

    private static Bits coded(Bits bits, int last, int firsts, int seconds) {
        int[] third = new int[19];
        for (int s : TOLD_BY) {
            third[s] = 3;
        }
        return bits.block(last, 2).coded(firsts, seconds, third);
    }

    private static Bits coded(int firsts, int seconds) {
        return coded(new Bits(), 1, firsts, seconds);
    }

    private static Bits tell(Bits bits, int... symbols) {
        for (int s : symbols) {
            for (int k = 0; k < TOLD_BY.length; k++) {
                if (TOLD_BY[k] == s) {
                    bits.code(k, 3);
                }
            }
        }
        return bits;
    }

    /** Zeros, by 18 and 17 as far as they go. */
    private static Bits zeros(Bits bits, int n) {
        int left = n;
        while (left > 10) {
            int many = Math.min(left, 138);
            tell(bits, 18).number(many - 11, 7);
            left -= many;
        }
        if (left > 2) {
            return tell(bits, 17).number(left - 3, 3);
        }
        return left > 0 ? zeros(tell(bits, 0), left - 1) : bits;
    }

    /** 97 and 256 with one bit each, the second code still to come. */
    private static Bits aAndEnd(Bits bits) {
        return tell(zeros(tell(zeros(bits, 97), 1), 158), 1);
    }

    // "codes with less bits come first, those with as many in the order of their symbols; .."
    private static void howCodesAreTold() {
        // b has one bit: 0; a two: 10; c and the end three: 110, 111.
        Bits bits = coded(257, 1);
        zeros(tell(zeros(bits, 97), 2, 1, 3), 156);
        tell(bits, 3, 0);
        due("a, b, c and the end", bits.code("10").code("0").code("110").code("10").code("0").code("111"), "abcab");
        // The longer ones stand first: their codes are still the last.
        bits = tell(zeros(coded(257, 1), 120), 3, 3, 2);
        tell(zeros(bits, 133), 1, 0);
        due("x, y, z and the end", bits.code("110").code("111").code("10").code("111").code("0"), "xyzy");
        // Lengths and distances by codes of their own: 257 and 258, and distances 0 and 2.
        bits = zeros(tell(zeros(coded(259, 3), 97), 2), 158);
        tell(bits, 2, 2, 2, 1, 0, 1);
        due("lengths", bits.code("00").code("10").code("0").code("11").code("1").code("01"), "a".repeat(8));
    }

    // "(0: none; 15 at most)"
    private static void codesOf15Bits() {
        int[] third = new int[16];
        Arrays.fill(third, 4);
        Bits bits = new Bits().block(1, 2).coded(257, 1, third);
        // Symbols 0 .. 14 have 1 .. 15 bits, and the end has 15.
        for (int s = 0; s < 256; s++) {
            bits.code(s < 15 ? s + 1 : 0, 4);
        }
        bits.code(15, 4).code(0, 4);
        due("each of them", bits.code("0").code("10").code("1".repeat(13) + "0").code("1".repeat(14) + "0").code("1".repeat(15)),
            "\u0000\u0001\r\u000e");
    }

    // "how many symbols of the first code are told, at most 286"
    private static void mostSymbolsOfTheFirst() {
        // 97 and 285 with two bits, the end with one.
        Bits bits = zeros(tell(zeros(coded(286, 1), 97), 2), 158);
        tell(zeros(tell(bits, 1), 28), 2, 1);
        due("286", bits.code("10").code("11").code("0").code("0"), "a".repeat(259));
        for (int a : new int[] {30, 31}) {
            dueJust("A " + a, -4, (b, n) -> b.block(1, 2).number(a, 5).number(0, 5).number(0, 4));
        }
        dueEnds("A 29", (b, n) -> b.block(1, 2).number(29, 5).number(0, 5).number(0, 4));
        dueEnds("A 30, but no B", (b, n) -> b.block(1, 2).number(30, 5));
        dueEnds("A 30, but no C", (b, n) -> b.block(1, 2).number(30, 5).number(0, 5));
    }

    // "of the second, at most 30"
    private static void mostSymbolsOfTheSecond() {
        Bits bits = zeros(tell(zeros(coded(258, 30), 97), 2), 158);
        // 97 and 257 with two bits, the end with one; distances 0 and 29 with one.
        tell(bits, 1, 2, 1);
        tell(zeros(bits, 28), 1);
        due("30", bits.code("10").code("11").code("0").code("0"), "aaaa");
        for (int many : new int[] {30, 31}) {
            dueJust("B " + many, -4, (b, n) -> b.block(1, 2).number(0, 5).number(many, 5).number(0, 4));
            dueJust("A, B " + many, -4, (b, n) -> b.block(1, 2).number(many, 5).number(many, 5).number(15, 4));
        }
        dueEnds("B 29", (b, n) -> b.block(1, 2).number(0, 5).number(29, 5).number(0, 4));
        dueEnds("B 30, but no C", (b, n) -> b.block(1, 2).number(0, 5).number(30, 5));
    }

    private static void headsBitsEnd() {
        dueEnds("in A", (b, n) -> b.block(1, 2).number(0, 4));
        dueEnds("behind A", (b, n) -> b.block(1, 2).number(0, 5));
        dueEnds("in B", (b, n) -> b.block(1, 2).number(0, 9));
        dueEnds("in C", (b, n) -> b.block(1, 2).number(0, 13));
        dueEnds("behind C", (b, n) -> b.block(1, 2).number(0, 14));
        dueEnds("in the third code", (b, n) -> b.block(1, 2).number(0, 14).number(0, 11));
        dueEnds("behind the third code", (b, n) -> coded(b, 1, 257, 1));
        dueEnds("in what it tells", (b, n) -> coded(b, 1, 257, 1).number(0, 2));
        dueEnds("in the number behind 18", (b, n) -> tell(coded(b, 1, 257, 1), 18).number(0, 6));
        dueEnds("in the number behind 17", (b, n) -> tell(coded(b, 1, 257, 1), 17).number(0, 2));
        dueEnds("in the number behind 16", (b, n) -> tell(coded(b, 1, 257, 1), 1, 16).number(0, 1));
        dueEnds("before the second code", (b, n) -> aAndEnd(coded(b, 1, 257, 1)));
        dueEnds("behind both codes", (b, n) -> tell(aAndEnd(coded(b, 1, 257, 1)), 0));
    }

    // "these symbols of a THIRD code have: 16, 17, 18, 0, 8, 7, 9, 6, 10, 5, 11, 4, 12, 3, 13, 2, 14, 1, 15"
    private static void orderOfTheThird() {
        for (int v = 1; v <= 15; v++) {
            dueStairs(v);
        }
        // 16, 17 and 18 with a zero: zeros alone make a first code that is not right, when all 258 are told.
        dueJust("16", -4, (b, n) -> runs(third(b, 1, 0, 0, 1).code("0000"), 42, 6, 2).code("00"));
        dueJust("17", -4, (b, n) -> runs(third(b, 0, 1, 0, 1), 25, 10, 3).code("0".repeat(8)));
        dueJust("18", -4, (b, n) -> runs(third(b, 0, 0, 1, 1), 1, 138, 7).code("0".repeat(120)));
    }

    /** So many times the other symbol of two, with the highest number that it can have. */
    private static Bits runs(Bits bits, int times, int most, int e) {
        for (int k = 0; k < times; k++) {
            bits.code("1").number((1 << e) - 1, e);
        }
        return bits;
    }

    private static String binary(int value, int bits) {
        StringBuilder text = new StringBuilder();
        for (int k = bits - 1; k >= 0; k--) {
            text.append(value >> k & 1);
        }
        return text.toString();
    }

    /** Symbols 0 .. v - 1 have 1 .. v bits, and the end has v: told by a third code in which v alone has one bit. */
    private static void dueStairs(int v) {
        int[] third = new int[19];
        third[v] = 1;
        int deep = 0;
        while (1 << deep < v) {
            deep++;
        }
        int shallow = (1 << deep) - v;
        for (int s = 0; s < v; s++) {
            third[s] = 1 + (s < shallow ? deep - 1 : deep);
        }
        String[] codes = codesOf(third);
        Bits bits = new Bits().block(1, 2).coded(257, 1, third);
        for (int s = 0; s < 256; s++) {
            bits.code(codes[s < v ? s + 1 : 0]);
        }
        bits.code(codes[v]).code(codes[0]);
        due("third with " + v, bits.code("0").code("1".repeat(v)), "\u0000");
    }

    private static String[] codesOf(int[] lengths) {
        String[] codes = new String[lengths.length];
        int next = 0;
        int before = 0;
        for (int many = 1; many <= 15; many++) {
            for (int s = 0; s < lengths.length; s++) {
                if (lengths[s] == many) {
                    next <<= many - before;
                    before = many;
                    codes[s] = binary(next, many);
                    next++;
                }
            }
        }
        return codes;
    }

    // "4 bits, C (4 more)": those that are not told have none
    private static void lessOfTheThird() {
        int[] order = {16, 17, 18, 0, 8, 7, 9, 6, 10, 5, 11, 4, 12, 3, 13, 2, 14, 1, 15};
        int[] third = new int[19];
        third[0] = 2;
        third[1] = 1;
        third[18] = 2;
        for (int c = 0; c < 16; c++) {
            Bits bits = new Bits().block(1, 2).number(0, 5).number(0, 5).number(c, 4);
            for (int k = 0; k < 4 + c; k++) {
                bits.number(third[order[k]], 3);
            }
            // 1 is the last but one: with less the third code is not right.
            bits.code("11").number(127, 7).code("11").number(107, 7).code("0").code("10").code("0");
            due("C " + c, bits.done(), c < 14 ? -4 : 0);
        }
    }

    /** A block with the byte 15 and the end, whose third code is told without its last symbol. */
    private static Bits withoutTheLast(Bits bits, int last) {
        bits.block(last, 2).number(0, 5).number(0, 5).number(14, 4);
        int[] third = {0, 0, 2, 2, 0, 0, 0, 0, 0, 0, 0, 0, 0, 0, 0, 0, 0, 1};
        for (int many : third) {
            bits.number(many, 3);
        }
        // 1 is 0, 0 is 10, 18 is 11.
        bits.code("11").number(4, 7).code("0").code("11").number(127, 7).code("11").number(91, 7).code("0").code("10");
        return bits.code("0").code("1");
    }

    private static void lessOfTheThirdBehindMore() {
        due("alone", withoutTheLast(new Bits(), 1), "\u000f");
        due("behind one that told it", withoutTheLast(withoutTheLast(new Bits(), 0), 1), "\u000f\u000f");
        Run run = new Run().tape(withoutTheLast(new Bits(), 1).done());
        Kit.due("one stream", run.expand(), 1);
        Kit.due("another one behind it", run.tape(withoutTheLast(new Bits(), 1).done()).expand(), 1);
        Kit.due("its byte", run.out(0), 15);
    }

    private static Bits third(Bits bits, int sixteen, int seventeen, int eighteen, int zero) {
        return bits.block(1, 2).number(0, 5).number(0, 5).number(0, 4).number(sixteen, 3).number(seventeen, 3)
            .number(eighteen, 3).number(zero, 3);
    }

    // "or a code that is not right (the third one when it is told"
    private static void thirdThatIsNotRight() {
        dueJust("none", -4, (b, n) -> third(b, 0, 0, 0, 0));
        dueJust("one of two bits", -4, (b, n) -> third(b, 0, 0, 0, 2));
        dueJust("one of seven bits", -4, (b, n) -> third(b, 0, 0, 7, 0));
        dueJust("three of one bit", -4, (b, n) -> third(b, 1, 1, 1, 0));
        dueJust("bits left", -4, (b, n) -> third(b, 1, 2, 0, 0));
        dueJust("bits left, two of two bits", -4, (b, n) -> third(b, 2, 2, 0, 0));
        dueJust("a code too many", -4, (b, n) -> third(b, 1, 2, 2, 2));
        dueJust("a long code too many", -4, (b, n) -> third(b, 1, 1, 7, 0));
        dueEnds("right: two of one bit", (b, n) -> third(b, 1, 1, 0, 0));
        dueEnds("right: one, two, two", (b, n) -> third(b, 1, 2, 2, 0));
        dueEnds("right: one, two, three, three", (b, n) -> third(b, 1, 2, 3, 3));
        dueEnds("right: four of two bits", (b, n) -> third(b, 2, 2, 2, 2));
    }

    // "or if it has one symbol, of one bit"
    private static void thirdOfOneSymbol() {
        dueEnds("right", (b, n) -> third(b, 0, 0, 0, 1));
        dueEnds("its code", (b, n) -> third(b, 0, 0, 0, 1).code("0"));
        dueJust("no code begins so", -5, (b, n) -> third(b, 0, 0, 0, 1).code("1"));
        dueJust("no code begins so behind one", -5, (b, n) -> third(b, 0, 0, 0, 1).code("01"));
        // All are zeros: then the first code is not right, when all is told.
        dueJust("zeros alone", -4, (b, n) -> third(b, 0, 0, 1, 0).code("0").number(127, 7).code("0").number(109, 7));
    }

    // "a 16 with none before (when it is read)"
    private static void sixteenWithNoneBefore() {
        dueJust("at once", -4, (b, n) -> third(b, 1, 0, 0, 1).code("1"));
        dueEnds("behind a zero", (b, n) -> third(b, 1, 0, 0, 1).code("01"));
        dueEnds("behind a zero, with its number", (b, n) -> third(b, 1, 0, 0, 1).code("01").number(0, 2));
        dueEnds("behind a 17", (b, n) -> tell(tell(coded(b, 1, 257, 1), 17).number(0, 3), 16).number(0, 2));
    }

    private static Bits fixedA(Bits bits) {
        return bits.block(0, 1).fixed('a').fixed(256);
    }

    /** 257 and the end with one bit each, the second code still to come. */
    private static Bits lengthAndEnd(int seconds) {
        return tell(zeros(coded(fixedA(new Bits()), 1, 258, seconds), 256), 1, 1);
    }

    // "16 the one before again, 3 times and a number of 2 bits more"
    private static void sixteenTimes() {
        // Four, five, six, seven of three bits, and what makes the code right.
        due("3 times", tell(tell(lengthAndEnd(6), 3, 16).number(0, 2), 2, 2).code("1").code("100").code("0").done(), 4);
        due("4 times", tell(tell(lengthAndEnd(7), 3, 16).number(1, 2), 2, 3).code("1").code("010").code("0").done(), 4);
        due("5 times", tell(tell(lengthAndEnd(7), 3, 16).number(2, 2), 2).code("1").code("010").code("0").done(), 4);
        due("6 times", tell(tell(lengthAndEnd(8), 3, 16).number(3, 2), 3).code("1").code("000").code("0").done(), 4);
        // The very first one again.
        Bits first = tell(zeros(tell(coded(257, 1), 3, 16).number(3, 2), 249), 3, 0);
        due("of the first symbol", first.code("001").code("110").code("000").code("111"), "\u0001\u0006\u0000");
        // A zero again.
        due("zeros", tell(tell(lengthAndEnd(6), 1, 0, 16).number(0, 2), 1).code("1").code("0").code("0").done(), 4);
        due("a 16 behind a 16", tell(tell(tell(lengthAndEnd(8), 3, 16).number(0, 2), 16).number(1, 2)).code("1").code("000")
            .code("0").done(), 4);
    }

    // "of the first one and (going on) the second have"
    private static void sixteenAcrossBothCodes() {
        // 256, 257 by 2, 2 with 254, 255 before: then 16 goes on over two symbols of the second code, and two more are told.
        Bits bits = zeros(coded(fixedA(new Bits()), 1, 258, 4), 254);
        tell(tell(bits, 2, 2, 2), 16).number(0, 2);
        tell(bits, 2, 2);
        due("over the first code's end", bits.code("11").code("00").code("10").done(), 4);
        // Zeros that begin in the first code and end in the second.
        bits = tell(zeros(coded(begun(3), 1, 268, 3), 256), 1, 1);
        tell(bits, 18).number(12 - 11, 7);
        due("zeros over the first code's end", tell(bits, 1).code("1").code("0").code("0").done(), 6);
    }

    // "17 zeros, 3 and a number of 3 bits"
    private static void seventeenTimes() {
        for (int x = 0; x < 8; x++) {
            int s = 3 + x;
            Bits bits = tell(tell(coded(257, 1), 17).number(x, 3), 1);
            tell(zeros(bits, 255 - s), 1, 0);
            due("17 and " + x, bits.code("0").code("1"), "" + (char) s);
        }
    }

    // "18 zeros, 11 and a number of 7 bits"
    private static void eighteenTimes() {
        for (int x = 0; x < 128; x++) {
            int s = 11 + x;
            Bits bits = tell(tell(coded(257, 1), 18).number(x, 7), 1);
            tell(zeros(bits, 255 - s), 1, 0);
            due("18 and " + x, bits.code("0").code("1"), "" + (char) s);
        }
    }

    // "more than all symbols (when a number behind 16, 17, 18 is read)"
    private static void moreThanAllSymbols() {
        // 258 in all. So many are told, and then the run.
        dueJust("16: one more", -4, (b, n) -> tell(zeros(coded(b, 1, 257, 1), 256), 16).number(0, 2));
        dueJust("16: just all, but no 256", -4, (b, n) -> tell(zeros(coded(b, 1, 257, 1), 255), 16).number(0, 2));
        dueJust("16: four more", -4, (b, n) -> tell(tell(zeros(coded(b, 1, 257, 1), 256), 1), 16).number(2, 2));
        dueJust("17: one more", -4, (b, n) -> tell(tell(zeros(coded(b, 1, 257, 2), 256), 1), 17).number(0, 3));
        dueJust("18: one more", -4, (b, n) -> tell(tell(zeros(coded(b, 1, 257, 10), 256), 1), 18).number(0, 7));
        dueJust("18: many more", -4, (b, n) -> tell(zeros(coded(b, 1, 257, 1), 250), 18).number(127, 7));
        due("16: just all", tell(tell(zeros(coded(257, 4), 256), 1), 0, 16).number(0, 2).code("0").done(), 0);
        due("17: just all", tell(tell(zeros(coded(257, 3), 256), 1), 17).number(0, 3).code("0").done(), 0);
        due("17: just all, ten", tell(tell(zeros(coded(257, 10), 256), 1), 17).number(7, 3).code("0").done(), 0);
        due("18: just all", tell(tell(zeros(coded(257, 11), 256), 1), 18).number(0, 7).code("0").done(), 0);
        due("18: just all, thirty", tell(tell(zeros(coded(257, 30), 256), 1), 18).number(19, 7).code("0").done(), 0);
        due("18: 31 of thirty", tell(tell(zeros(coded(257, 30), 256), 1), 18).number(20, 7).code("0").done(), -4);
    }

    // "when all is told the first, then the second"
    private static void firstThatIsNotRight() {
        dueJust("one of two bits", -4, (b, n) -> tell(zeros(coded(b, 1, 257, 1), 256), 2, 0));
        dueJust("bits left", -4, (b, n) -> tell(zeros(tell(coded(b, 1, 257, 1), 2), 255), 1, 0));
        dueJust("three of one bit", -4, (b, n) -> tell(zeros(tell(coded(b, 1, 257, 1), 1, 1), 254), 1, 0));
        dueJust("a code too many", -4, (b, n) -> tell(zeros(tell(coded(b, 1, 257, 1), 2, 2, 4), 253), 1, 0));
        dueEnds("right: two of one bit", (b, n) -> tell(zeros(tell(coded(b, 1, 257, 1), 1), 255), 1, 0));
        dueEnds("right: two, two, one", (b, n) -> tell(zeros(tell(coded(b, 1, 257, 1), 2, 2), 254), 1, 0));
        dueEnds("right: four of two", (b, n) -> tell(zeros(tell(coded(b, 1, 257, 1), 2, 2, 2), 253), 2, 0));
    }

    // "the first one must have the symbol 256"
    private static void firstWithout256() {
        dueJust("two others of one bit", -4, (b, n) -> tell(zeros(tell(coded(b, 1, 257, 1), 1, 1), 255), 0));
        dueJust("one other of one bit", -4, (b, n) -> tell(zeros(tell(coded(b, 1, 257, 1), 1), 256), 0));
        dueJust("255 and 257", -4, (b, n) -> tell(zeros(coded(b, 1, 258, 1), 255), 1, 0, 1, 0));
        dueJust("none", -4, (b, n) -> zeros(coded(b, 1, 257, 1), 258));
        dueJust("none but in the second", -4, (b, n) -> tell(zeros(coded(b, 1, 257, 1), 257), 1));
    }

    private static void firstOfOneSymbol() {
        due("its code", tell(zeros(coded(257, 1), 256), 1, 0).code("0").done(), 0);
        // "5 as soon as no code begins with the bits that were read for a symbol"
        dueJust("no code begins so", -5, (b, n) -> tell(zeros(coded(b, 1, 257, 1), 256), 1, 0).code("1"));
    }

    private static Bits onlyEnd(Bits bits, int seconds) {
        return tell(zeros(coded(bits, 1, 257, seconds), 256), 1);
    }

    private static void secondThatIsNotRight() {
        dueJust("one of two bits", -4, (b, n) -> tell(onlyEnd(b, 1), 2));
        dueJust("two of two bits", -4, (b, n) -> tell(onlyEnd(b, 2), 2, 2));
        dueJust("bits left", -4, (b, n) -> tell(onlyEnd(b, 2), 1, 2));
        dueJust("three of one bit", -4, (b, n) -> tell(onlyEnd(b, 3), 1, 1, 1));
        dueJust("a code too many", -4, (b, n) -> tell(onlyEnd(b, 4), 1, 2, 2, 4));
        dueEnds("right: two of one bit", (b, n) -> tell(onlyEnd(b, 2), 1, 1));
        dueEnds("right: one, two, two", (b, n) -> tell(onlyEnd(b, 3), 1, 2, 2));
        dueJust("the first is not right, the second is", -4, (b, n) -> tell(zeros(coded(b, 1, 257, 2), 256), 2, 1, 1));
        dueJust("neither is right", -4, (b, n) -> tell(zeros(coded(b, 1, 257, 2), 256), 2, 2, 2));
    }

    /** 97 has one bit, 257 two, the end two; the second code still to come. */
    private static Bits aLengthAndEnd(Bits bits, int seconds) {
        return tell(zeros(tell(zeros(coded(bits, 1, 258, seconds), 97), 1), 158), 2, 2);
    }

    // "the second one also if it has none", "(at once, if there is none)"
    private static void secondOfNone() {
        due("without a length", tell(aLengthAndEnd(new Bits(), 1), 0).code("0").code("10").done(), 1);
        due("thirty of none", zeros(aLengthAndEnd(new Bits(), 30), 30).code("0").code("10").done(), 1);
        dueJust("with a length", -5, (b, n) -> tell(aLengthAndEnd(b, 1), 0).code("0").code("11"));
        // Behind a length's number: 265 has one bit more.
        dueJust("behind the length's number", -5,
            (b, n) -> tell(zeros(tell(zeros(coded(b, 1, 266, 1), 256), 1), 8), 1, 0).code("1").number(0, 1));
        due("with a length at the begin", tell(aLengthAndEnd(new Bits(), 1), 0).code("11").done(), -5);
    }

    private static void secondOfOneSymbol() {
        due("its code", tell(aLengthAndEnd(new Bits(), 1), 1).code("0").code("11").code("0").code("10").done(), 4);
        dueJust("no code begins so", -5, (b, n) -> tell(aLengthAndEnd(b, 1), 1).code("0").code("11").code("1"));
        dueEnds("no bit is there", (b, n) -> tell(aLengthAndEnd(b, 1), 1).code("0").code("11"));
        // The one symbol is not the first one.
        due("distance 2", tell(aLengthAndEnd(new Bits(), 2), 0, 1).code("0").code("0").code("11").code("0").code("10").done(), 5);
    }

    // "6 a distance beyond the begin"
    private static void beyondTheBegin() {
        due("one of none", new Bits().block(1, 1).fixed(257).distance(0).fixed(256).done(), -6);
        due("one of one", new Bits().block(1, 1).fixed('a').fixed(257).distance(0).fixed(256).done(), 4);
        due("two of one", new Bits().block(1, 1).fixed('a').fixed(257).distance(1).fixed(256).done(), -6);
        due("four of three", new Bits().block(1, 1).fixed('a').fixed('b').fixed('c').fixed(257).distance(3).fixed(256).done(), -6);
        // As soon as the distance is read, with its number.
        due("without a number", new Bits().block(1, 1).fixed(200).fixed(257).distance(3).done(), -6);
        dueJust("with a number", -6, (b, n) -> b.block(1, 1).fixed(257).distance(29).number(8191, 13));
        dueJust("with a shorter one", -6, (b, n) -> b.block(1, 1).fixed(257).distance(8).number(0, 3));
        // The length's bytes do not count, only those before.
        due("among those that come, but beyond", new Bits().block(1, 1).fixed('a').fixed(285).distance(2).fixed(256).done(), -6);
    }

    /** All but so many of the 4000 bytes. */
    private static Bits most(Bits bits, int before, int less) {
        return bits.block(1, 1).fixed('q').more(3999 - before - less);
    }

    // "7 more than 4000 bytes": 4000 are still right
    private static void upTo4000Bytes() {
        due("3999", most(new Bits(), 0, 1).fixed(256).done(), 3999);
        due("4000", most(new Bits(), 0, 0).fixed(256).done(), 4000);
        due("4000 by a byte", most(new Bits(), 0, 1).fixed('x').fixed(256).done(), 4000);
        due("4000 by a length", most(new Bits(), 0, 3).fixed(257).distance(0).fixed(256).done(), 4000);
        due("4000 by 258", most(new Bits(), 0, 258).fixed(285).distance(0).fixed(256).done(), 4000);
        due("4000 and an empty block", new Bits().block(0, 1).fixed('q').more(3999).fixed(256).block(1, 1).fixed(256).done(), 4000);
    }

    // "(when a byte .. was read)"
    private static void moreThan4000ByAByte() {
        dueJust("one more", -7, (b, n) -> most(b, n, 0).fixed('x'));
        dueJust("one more of nine bits", -7, (b, n) -> most(b, n, 0).fixed(200));
        due("one more, then the end", most(new Bits(), 0, 0).fixed('x').fixed(256).done(), -7);
        due("one more in another block", new Bits().block(0, 1).fixed('q').more(3999).fixed(256).block(1, 1).fixed('x').fixed(256)
            .done(), -7);
    }

    // "(when .. all of a length and distance, was read)"
    private static void moreThan4000ByALength() {
        dueJust("one more", -7, (b, n) -> most(b, n, 2).fixed(257).distance(0));
        dueJust("three more", -7, (b, n) -> most(b, n, 0).fixed(257).distance(0));
        dueJust("258 more", -7, (b, n) -> most(b, n, 0).fixed(285).distance(1));
        dueJust("one more of 258", -7, (b, n) -> most(b, n, 257).fixed(285).distance(3));
        dueJust("with the distance's number", -7, (b, n) -> most(b, n, 0).fixed(257).distance(20).number(0, 9));
        dueJust("distance 30 comes first", -5, (b, n) -> most(b, n, 0).fixed(257).distance(30));
    }

    private static byte[] stored(int said, int there) {
        return Kit.join(new byte[] {1}, Zip.two(said), Zip.two(65535 - said), Kit.filled("s", there));
    }

    private static void moreThan4000Stored() {
        due("4000", stored(4000, 4000), 4000);
        due("4001", stored(4001, 4001), -7);
        due("4001 said, 4000 there", stored(4001, 4000), -1);
        due("65535 said, 4000 there", stored(65535, 4000), -1);
        due("65535 said, 4001 there", stored(65535, 4001), -7);
        due("3999 and bytes behind", stored(3999, 4000), -8);
        due("4000 and bytes behind", stored(4000, 4001), -8);
    }

    // "8 bytes behind the last block"
    private static void bytesBehindTheLastBlock() {
        for (int before = 0; before < 8; before++) {
            byte[] whole = begun(before).block(1, 1).fixed(256).done();
            due("none behind " + before, whole, before);
            due("one behind " + before, Kit.join(whole, new byte[1]), -8);
            due("another one behind " + before, Kit.join(whole, new byte[] {3}), -8);
            due("many behind " + before, Kit.join(whole, Kit.filled("x", 100)), -8);
        }
        due("none behind a stored one", stored(0, 0), 0);
        due("one behind a stored one", stored(0, 1), -8);
        due("a whole stream behind", new byte[] {3, 0, 3, 0}, -8);
        due("a fault before counts", new byte[] {7, 0, 0}, -2);
    }

    private static void bitsBehindTheLastBlock() {
        for (int before = 0; before < 8; before++) {
            Bits bits = begun(before).block(1, 1).fixed(256);
            while (bits.size() % 8 != 0) {
                bits.number(1, 1);
            }
            due("ones to the end of the byte, " + before, bits.done(), before);
        }
    }

    private static void blocksBehindOneThatIsNotLast() {
        due("three blocks", new Bits().block(0, 1).fixed('a').fixed(256).block(0, 0).align().number(1, 16).number(65534, 16)
            .number('b', 8).block(1, 1).fixed('c').fixed(256), "abc");
        due("a coded one between", tell(aAndEnd(coded(new Bits().block(0, 1).fixed('x').fixed(256), 0, 257, 1)), 0).code("001")
            .block(1, 1).fixed('y').fixed(256), "xaay");
        // Each block has codes of its own.
        Bits bits = tell(aAndEnd(coded(new Bits(), 0, 257, 1)), 0).code("01");
        tell(zeros(tell(zeros(coded(bits, 1, 257, 1), 98), 1), 157), 1, 0);
        due("two coded ones", bits.code("01"), "ab");
    }

    // "THE TAPE holds up to 8000 bytes"
    private static void aFullTape() {
        byte[] empty = {0, 0, 0, (byte) 255, (byte) 255};
        byte[] row = new byte[8000];
        for (int k = 0; k < 8000; k++) {
            row[k] = empty[k % 5];
        }
        due("1600 blocks, none is the last", row, -1);
        row[7995] = 1;
        due("1600 blocks", row, 0);
        row[7990] = 1;
        due("the last one is behind the last", row, -8);
    }

    // "or the fault, made negative (nothing comes out then; what came out before stays)"
    private static void nothingComesOutOfAFault() {
        byte[][] streams = {
            {}, {7}, {1, 0, 0, 0, 0}, new Bits().block(1, 2).number(31, 14).done(), new Bits().block(1, 1).fixed('a').fixed(286).done(),
            new Bits().block(1, 1).fixed('a').fixed(257).distance(1).done(), most(new Bits(), 0, 0).fixed('x').done(), {3, 0, 0}
        };
        for (int k = 0; k < streams.length; k++) {
            Run run = new Run().with("a", "1").tape("\u0001\u0002\u0000\u00fd\u00ffhi");
            run.expand();
            String before = run.seen();
            Kit.due("fault " + (1 + k), run.tape(streams[k]).expand(), -1 - k);
            run.dueTaken("fault " + (1 + k));
            Kit.due("fault " + (1 + k) + " changes nothing", run.seen(), before);
            Run none = new Run();
            none.tape(streams[k]).expand();
            Kit.dueThrow("nothing came out", Kit.INDEX, () -> none.out(0));
        }
    }
}
