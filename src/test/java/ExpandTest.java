import java.util.Arrays;
import java.util.Random;

/** Promise 13: streams, right ones and each fault of the document. */
public final class ExpandTest {
    // The third code of these blocks: 0, 1, 2 and 18 with two bits each, in this order of codes.
    private static final int[] THIRD = {2, 2, 2, 0, 0, 0, 0, 0, 0, 0, 0, 0, 0, 0, 0, 0, 0, 0, 2};
    private static final String ZERO = "00";
    private static final String ONE = "01";
    private static final String TWO = "10";
    private static final String ZEROS = "11";

    public static void main(String[] args) {
        stored();
        fixed();
        lengthsAndDistances();
        coded();
        longCodes();
        codesThatAreNotRight();
        tooManyBytes();
        behindTheLast();
        whatStays();
        deflated();
        againstOracle();
        Kit.end();
    }

    private static void due(String what, byte[] stream, int want) {
        int[] fault = new int[1];
        byte[] bytes = StreamOracle.expand(stream, fault);
        Kit.due(what + " by the oracle", bytes == null ? -fault[0] : bytes.length, want);
        Run book = new Book();
        Kit.due(what, Kit.expand(book, stream), want);
        Kit.due(what + ", tape", book.again(0), 0);
        if (bytes != null && want >= 0) {
            Kit.due(what, Kit.out(book, want), bytes);
        }
    }

    private static void stored() {
        due("empty", new byte[0], -1);
        due("no kind", new Bits().block(1, 0).done(), -1);
        due("kind 3", new Bits().block(1, 3).done(), -2);
        due("kind 3, not last", new Bits().block(0, 3).done(), -2);
        due("stored, nothing", new Bits().block(1, 0).align().number(0, 16).number(65535, 16).done(), 0);
        due("passed bits", new Bits().block(1, 0).number(31, 5).number(1, 16).number(65534, 16).number(200, 8).done(), 1);
        due("another number", new Bits().block(1, 0).align().number(1, 16).number(65535, 16).done(), -3);
        due("half a number", new Bits().block(1, 0).align().number(1, 16).number(0, 8).done(), -1);
        due("bytes end", new Bits().block(1, 0).align().number(2, 16).number(65533, 16).number(7, 8).done(), -1);
        due("no last one", new Bits().block(0, 0).align().number(0, 16).number(65535, 16).done(), -1);
        due("two blocks", new Bits().block(0, 0).align().number(1, 16).number(65534, 16).number(7, 8).block(1, 1)
            .fixed(258).distance(0).fixed(256).done(), 5);
    }

    private static void fixed() {
        due("nothing", new Bits().block(1, 1).fixed(256).done(), 0);
        due("bytes", new Bits().block(1, 1).fixed(0).fixed(143).fixed(144).fixed(255).fixed(256).done(), 4);
        due("symbol 286", new Bits().block(1, 1).fixed(65).fixed(286).done(), -5);
        due("symbol 287", new Bits().block(1, 1).fixed(65).fixed(287).done(), -5);
        due("symbol 286 at the very end", new Bits().block(1, 1).number(0, 0).fixed(65).code("11000").code("110").done(), -5);
        due("distance 30", new Bits().block(1, 1).fixed(65).fixed(257).distance(30).done(), -5);
        due("distance 31", new Bits().block(1, 1).fixed(65).fixed(257).distance(31).done(), -5);
        due("beyond the begin", new Bits().block(1, 1).fixed(65).fixed(257).distance(1).fixed(256).done(), -6);
        due("beyond, at once", new Bits().block(1, 1).fixed(257).distance(0).fixed(256).done(), -6);
        due("bits end in a symbol", new byte[] {3}, -1);
        due("bits end in a length", Arrays.copyOf(new Bits().block(1, 1).fixed(65).fixed(284).done(), 2), -1);
        due("bits end in a distance", new Bits().block(1, 1).fixed(65).fixed(257).done(), -1);
        due("blocks that go on", new Bits().block(0, 1).fixed(65).fixed(256).block(1, 1).fixed(257).distance(0).fixed(256).done(), 4);
    }

    private static void lengthsAndDistances() {
        for (int k = 0; k <= 28; k++) {
            int e = k < 8 || k == 28 ? 0 : k / 4 - 1;
            for (int more : new int[] {0, (1 << e) - 1}) {
                int length = (k < 8 ? 3 + k : k == 28 ? 258 : 3 + ((4 + k % 4) << e)) + more;
                due("length " + length, new Bits().block(1, 1).fixed(9).fixed(257 + k).number(more, e).distance(0)
                    .fixed(256).done(), 1 + length);
            }
        }
        for (int d = 0; d < 30; d++) {
            int e = d < 4 ? 0 : d / 2 - 1;
            for (int more : new int[] {0, (1 << e) - 1}) {
                int distance = 1 + (d < 4 ? d : (2 + d % 2) << e) + more;
                int before = Math.min(distance, 3990);
                Bits bits = new Bits().block(0, 0).align().number(before, 16).number(65535 - before, 16);
                for (int n = 0; n < before; n++) {
                    bits.number(n * 7 + n / 256, 8);
                }
                bits.block(1, 1).fixed(261).distance(d).number(more, e).fixed(256);
                due("distance " + distance, bits.done(), distance > before ? -6 : before + 7);
            }
        }
    }

    /** Told: 256 with one bit, and so many more symbols in all; the second code as given. */
    private static Bits onlyEnd(int seconds, String... second) {
        Bits bits = new Bits().block(1, 2).coded(257, seconds, THIRD);
        bits.code(ZEROS).number(127, 7).code(ZEROS).number(107, 7).code(ONE);
        for (String s : second) {
            bits.code(s);
        }
        return bits;
    }

    private static void coded() {
        due("one symbol of one bit", onlyEnd(1, ZERO).code("0").done(), 0);
        due("no code begins so", onlyEnd(1, ZERO).code("1").done(), -5);
        due("second: one of one bit", onlyEnd(1, ONE).code("0").done(), 0);
        due("second: one of two bits", onlyEnd(1, TWO).code("0").done(), -4);
        due("second: two of one bit", onlyEnd(2, ONE, ONE).code("0").done(), 0);
        due("second: three of one bit", onlyEnd(3, ONE, ONE, ONE).code("0").done(), -4);
        due("second: bits left", onlyEnd(2, ONE, TWO).code("0").done(), -4);
        due("second: all", onlyEnd(3, ONE, TWO, TWO).code("0").done(), 0);
        due("bits end in what is told", onlyEnd(30, ZERO).done(), -1);
        due("A 31", new Bits().block(1, 2).number(31, 5).number(0, 5).number(0, 4).done(), -4);
        due("A 30", new Bits().block(1, 2).number(30, 5).number(0, 5).number(0, 4).done(), -4);
        due("A 29", new Bits().block(1, 2).number(29, 5).number(0, 5).number(0, 4).done(), -1);
        due("B 30", new Bits().block(1, 2).number(0, 5).number(30, 5).number(0, 4).done(), -4);
        due("B 29", new Bits().block(1, 2).number(0, 5).number(29, 5).number(0, 4).done(), -1);
        due("A 31, but C is not there", new byte[] {(byte) 0xFD, 0}, -1);
        // Length 3 with a second code of no symbol: at once, though the bits end, too.
        Bits bits = new Bits().block(1, 2).coded(258, 1, THIRD).code(ONE).code(ZEROS).number(127, 7).code(ZEROS)
            .number(106, 7).code(TWO).code(TWO).code(ZERO).code("0").code("11");
        due("no second code", bits.done(), -5);
        // With a second code of one symbol the other bit is a fault as soon as it is read.
        bits = new Bits().block(1, 2).coded(258, 1, THIRD).code(ONE).code(ZEROS).number(127, 7).code(ZEROS)
            .number(106, 7).code(TWO).code(TWO).code(ONE).code("0").code("11").code("1");
        due("the other bit", bits.done(), -5);
        bits = new Bits().block(1, 2).coded(258, 1, THIRD).code(ONE).code(ZEROS).number(127, 7).code(ZEROS)
            .number(106, 7).code(TWO).code(TWO).code(ONE).code("0").code("11").code("0").code("10");
        due("the one bit", bits.done(), 4);
    }

    /** The first symbols have 1, 2, 3 .. bits, and each number of bits is told by a symbol of its own. */
    private static Bits stairs(int most, int lastTold) {
        int[] third = new int[16];
        java.util.Arrays.fill(third, 4);
        Bits bits = new Bits().block(1, 2).coded(257, 1, third);
        for (int s = 0; s < 256; s++) {
            bits.code(s < most ? s + 1 : 0, 4);
        }
        return bits.code(lastTold, 4).code(0, 4);
    }

    private static void longCodes() {
        due("15 bits", stairs(15, 15).code("0").code("1".repeat(14) + "0").code("1".repeat(15)).done(), 2);
        due("15 bits, bits left", stairs(14, 15).code("0").done(), -4);
        due("15 bits, too many codes", stairs(15, 14).code("0").done(), -4);
        due("14 bits", stairs(14, 14).code("1".repeat(13) + "0").code("1".repeat(14)).done(), 1);
        due("bits end in a code", stairs(15, 15).code("1").done(), -1);
    }

    private static void codesThatAreNotRight() {
        due("third: none", new Bits().block(1, 2).coded(257, 1).done(), -4);
        due("third: one of two bits", new Bits().block(1, 2).coded(257, 1, 2).done(), -4);
        due("third: three of one bit", new Bits().block(1, 2).coded(257, 1, 1, 1, 1).done(), -4);
        due("third: bits left", new Bits().block(1, 2).coded(257, 1, 1, 2).done(), -4);
        due("third: one of one bit, all zeros", new Bits().block(1, 2).coded(257, 1, 1).number(0, 16 * 8).number(0, 16 * 8 + 2).done(), -4);
        due("third: one of one bit, a one", new Bits().block(1, 2).coded(257, 1, 1).number(1, 8).done(), -5);
        // 16 and 0 with one bit each.
        int[] sixteen = {1, 0, 0, 0, 0, 0, 0, 0, 0, 0, 0, 0, 0, 0, 0, 0, 1};
        due("16 with none before", new Bits().block(1, 2).coded(257, 1, sixteen).code("1").done(), -4);
        // Three bits behind the head are the last: the 16 is read, its number is not.
        Bits bits = new Bits().block(1, 2).number(0, 5).number(0, 5).number(0, 4).number(1, 3).number(0, 3)
            .number(0, 3).number(1, 3).code("00000").code("0000000").code("1");
        due("16's number is not there", Arrays.copyOf(bits.done(), 5), -1);
        bits = new Bits().block(1, 2).coded(257, 1, THIRD).code(ZEROS).number(127, 7).code(ZEROS).number(108, 7);
        due("one more than all first", bits.code(ZERO).done(), -4);
        bits = new Bits().block(1, 2).coded(257, 1, THIRD).code(ZEROS).number(127, 7).code(ZEROS).number(110, 7);
        due("more than all", bits.done(), -4);
        bits = new Bits().block(1, 2).coded(257, 2, THIRD).code(ONE).code(ONE).code(ZEROS).number(127, 7).code(ZEROS)
            .number(108, 7);
        due("no end symbol", bits.number(0, 9).done(), -4);
        bits = new Bits().block(1, 2).coded(257, 1, THIRD).code(ONE).code(ONE).code(ZEROS).number(127, 7).code(ZEROS)
            .number(105, 7).code(ONE).code(ZERO);
        due("too many codes", bits.done(), -4);
        bits = new Bits().block(1, 2).coded(257, 1, THIRD).code(TWO).code(TWO).code(ZEROS).number(127, 7).code(ZEROS)
            .number(105, 7).code(TWO).code(ZERO);
        due("bits left", bits.done(), -4);
        // 17, 18 go on from the first code into the second one, and so does 16.
        int[] all = {2, 2, 0, 0, 0, 0, 0, 0, 0, 0, 0, 0, 0, 0, 0, 0, 2, 0, 2};
        bits = new Bits().block(1, 2).coded(257, 4, all).code("01").code("11").number(127, 7).code("11").number(106, 7)
            .code("01").code("10").number(0, 2).code("00");
        due("16 goes on: three of one bit", bits.done(), -4);
    }

    private static void tooManyBytes() {
        for (int size : new int[] {3999, 4000, 4001, 5000}) {
            Bits bits = new Bits().block(1, 0).align().number(size, 16).number(65535 - size, 16);
            for (int k = 0; k < size; k++) {
                bits.number(k, 8);
            }
            due("stored " + size, bits.done(), size > 4000 ? -7 : size);
        }
        Bits early = new Bits().block(1, 0).align().number(5000, 16).number(60535, 16);
        for (int k = 0; k < 4000; k++) {
            early.number(k, 8);
        }
        due("5000 said, 4000 there", early.done(), -1);
        due("5000 said, 4001 there", early.number(1, 8).done(), -7);
        Bits full = new Bits().block(1, 1).fixed(7);
        for (int k = 0; k < 15; k++) {
            full.fixed(285).distance(0);
        }
        // 3871 by now.
        byte[] head = full.done();
        due("bits end", head, -1);
        for (int more : new int[] {129, 130}) {
            Bits bits = new Bits().block(1, 1).fixed(7);
            for (int k = 0; k < 15; k++) {
                bits.fixed(285).distance(0);
            }
            int value = more - 3;
            bits.fixed(257 + 20 - 4 + 7).number(value - (7 << 4), 4).distance(0);
            due("length to " + (3871 + more), bits.fixed(256).done(), more > 129 ? -7 : 4000);
        }
        Bits one = new Bits().block(1, 1).fixed(7);
        for (int k = 0; k < 15; k++) {
            one.fixed(285).distance(0);
        }
        one.fixed(280).number(14, 4).distance(0).fixed(1);
        due("one byte more", one.fixed(256).done(), -7);
        Bits both = new Bits().block(1, 1);
        for (int k = 0; k < 3900; k++) {
            both.fixed(k % 100);
        }
        due("beyond the begin and too many", both.fixed(285).distance(29).number(8191, 13).fixed(256).done(), -6);
    }

    private static void behindTheLast() {
        due("a byte behind", Kit.join(new Bits().block(1, 1).fixed(256).done(), new byte[1]), -8);
        due("bits behind", new Bits().block(1, 1).fixed(256).number(63, 6).done(), 0);
        due("behind stored", Kit.join(new Bits().block(1, 0).align().number(0, 16).number(65535, 16).done(), new byte[1]), -8);
    }

    private static void whatStays() {
        Run book = new Run();
        Kit.expand(book, new Bits().block(1, 1).fixed(65).fixed(200).fixed(256).done());
        Kit.due("a fault", Kit.expand(book, new Bits().block(1, 1).fixed(66).fixed(287).done()), -5);
        Kit.due("stays", Kit.out(book, 2), new byte[] {65, (byte) 200});
        Kit.due("nothing", Kit.expand(book, new byte[] {3, 0}), 0);
        Kit.due("nothing came out", Kit.out(book, 0), new byte[0]);
        Kit.dueThrow("out(-1)", Kit.INDEX, () -> book.out(-1));
    }

    private static byte[] randomRow(Random random, int n) {
        byte[] row = new byte[n];
        int letters = 1 + random.nextInt(random.nextBoolean() ? 4 : 256);
        for (int k = 0; k < n; k++) {
            row[k] = (byte) (k > 9 && random.nextInt(9) > 5 ? row[k - 1 - random.nextInt(9)] : random.nextInt(letters));
        }
        return row;
    }

    private static void deflated() {
        Random random = new Random(13);
        for (int round = 0; round < 300; round++) {
            byte[] row = randomRow(random, random.nextInt(2500));
            byte[] stream = Kit.deflate(row, random.nextInt(10), random.nextInt(3));
            Run book = new Book();
            Kit.due("deflated " + round, Kit.expand(book, stream), row.length);
            Kit.due("deflated " + round, Kit.out(book, row.length), row);
        }
    }

    private static void againstOracle() {
        Random random = new Random(31);
        int[] met = new int[9];
        int[] fault = new int[1];
        for (int round = 0; round < 12000; round++) {
            byte[] stream;
            if (round % 4 == 0) {
                stream = new byte[random.nextInt(60)];
                random.nextBytes(stream);
            } else {
                stream = Kit.deflate(randomRow(random, random.nextInt(300)), 1 + random.nextInt(9), random.nextInt(3));
                for (int k = random.nextInt(3); k > 0; k--) {
                    stream[random.nextInt(Math.min(stream.length, 40))] ^= (byte) (1 << random.nextInt(8));
                }
                stream = Arrays.copyOf(stream, stream.length - random.nextInt(2) * random.nextInt(stream.length) / 4);
            }
            byte[] want = StreamOracle.expand(stream, fault);
            met[fault[0]]++;
            Run book = new Book();
            int got = Kit.expand(book, stream);
            Kit.due("round " + round, got, want == null ? -fault[0] : want.length);
            if (want != null && got == want.length) {
                Kit.due("round " + round, Kit.out(book, got), want);
            }
        }
        for (int which : new int[] {0, 1, 2, 3, 4, 5, 6, 8}) {
            Kit.due("fault " + which + " was met", met[which] > 0, true);
        }
    }
}
