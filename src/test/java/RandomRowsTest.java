import java.util.List;
import java.util.Random;

/**
 * Rows of 512 calls in an order that is not chosen: what is done to the parts, the tape and the file, with questions in
 * between, each call right or wrong. All answers are the model's.
 */
public final class RandomRowsTest {
    private static final int ROWS = 600;
    // A doing needs less calls than these.
    private static final int MOST_AT_ONCE = 120;
    private static final String[] NAMES = {
        "root", "root.rels", "a", "a.rels", "a.rels.rels", "b", "b.rels", "b/c", "b/c.rels", ".rels", "z.rels", "z", "_", "0",
        "a.", "a/b", "a/b.rels", "q0", "q1", "q2", "abcdefghijklmnopqrs", "abcdefghijklmnopqrs.rels"
    };
    private static final String[] NO_NAMES = {"", "A", "a//b", "..", "b/", "abcdefghijklmnopqrstuvwxy", "a b"};
    private static final int[] FAR = {Integer.MIN_VALUE, -1, 17, 256, 4000, 8000, 14006, Integer.MAX_VALUE};

    private final Random random;
    private final Both both;

    private RandomRowsTest(int seed) {
        random = new Random(seed);
        both = new Both("row " + seed);
    }

    public static void main(String[] args) {
        for (int seed = 0; seed < ROWS; seed++) {
            new RandomRowsTest(seed).go();
        }
        Kit.end();
    }

    private void go() {
        while (both.left() >= MOST_AT_ONCE) {
            withoutItsException(this::doSomething);
            withoutItsException(this::askSomething);
        }
        while (both.left() > 0) {
            withoutItsException(this::askSomething);
        }
    }

    private static void withoutItsException(Runnable doing) {
        try {
            doing.run();
        } catch (IllegalArgumentException | IndexOutOfBoundsException | UnsupportedOperationException e) {
            // The model threw it, too, or the call was told.
            return;
        }
    }

    private int one(int n) {
        return random.nextInt(n);
    }

    private String one(String[] all) {
        return all[one(all.length)];
    }

    private void doSomething() {
        if (one(12) > 0) {
            both.sum();
        }
        int which = one(40);
        if (which < 18) {
            addOne();
        } else if (which < 20) {
            both.remove(one(12) == 0 ? one(NO_NAMES) : oneThatIsThere());
        } else if (which < 24) {
            both.write();
        } else if (which < 29) {
            rereadIt();
        } else if (which < 31) {
            readOne();
        } else if (which < 35) {
            checkAll();
        } else if (which < 37) {
            both.tape(content()).press();
        } else if (which < 39) {
            expandOne();
        } else {
            fillTheTape();
        }
    }

    private String oneThatIsThere() {
        List<String> names = both.model.names();
        return names.isEmpty() || one(5) == 0 ? one(NAMES) : names.get(one(names.size()));
    }

    private void addOne() {
        String name = one(15) == 0 ? one(NO_NAMES) : one(3) == 0 ? oneThatIsThere() + ".rels" : one(NAMES);
        if (name.endsWith(".rels")) {
            both.add(name, markup());
        } else {
            both.add(name, one(3) == 0 ? content() : new byte[0]);
        }
    }

    private byte[] content() {
        switch (one(5)) {
            case 0: return Kit.bytes(markup());
            case 1: return Kit.filled("many of these ", 3900 + one(102));
            case 2: return Kit.filled("x", one(600));
            default:
                byte[] row = new byte[one(60)];
                random.nextBytes(row);
                return row;
        }
    }

    private String markup() {
        StringBuilder text = new StringBuilder("<rels>");
        for (int k = one(4); k > 0; k--) {
            text.append("<rel id='").append(one(5)).append("' to='").append(oneThatIsThere()).append("'/>");
        }
        text.append("</rels>");
        if (one(6) == 0) {
            text.setCharAt(one(text.length()), "</ >'-!x".charAt(one(8)));
        }
        return text.toString();
    }

    private void rereadIt() {
        int size = both.model.file().length;
        int at = one(12) == 0 ? size : size == 0 ? 0 : one(size);
        both.reread(at, one(3) == 0 ? 1 << one(9) : 0);
    }

    private void readOne() {
        byte[] file = both.model.file();
        if (one(3) == 0 || file.length > 700) {
            file = new Zip().part("root", "").part("root.rels", markup()).done();
        }
        if (one(3) == 0 && file.length > 0) {
            file[one(file.length)] ^= (byte) (1 << one(8));
        }
        both.tape(file).read();
    }

    private void checkAll() {
        int many = both.check();
        for (int k = 0; k < Math.min(many, 8); k++) {
            for (int what = 0; what < 3; what++) {
                both.fault(k, what);
            }
        }
    }

    private void expandOne() {
        byte[] stream = both.model.came();
        if (stream.length > 400) {
            stream = PressOracle.press(content());
        }
        if (stream.length <= 400) {
            both.tape(stream, new byte[one(8) / 7]).expand();
        }
    }

    private void fillTheTape() {
        both.tape(Kit.filled("12345678", 4000 * one(3)));
        both.type(random.nextLong(), one(11) - 1);
        both.again(one(9));
        withoutItsException(() -> both.add(one(30)));
        both.press();
    }

    private int index(int most) {
        return one(8) == 0 ? FAR[one(FAR.length)] : one(most + 1);
    }

    private int oneThatHasSome() {
        List<String> names = both.model.names();
        int i = names.indexOf(oneThatIsThere().replace(".rels", ""));
        return i < 0 ? index(names.size()) : i;
    }

    private void askSomething() {
        int parts = both.model.names().size();
        switch (one(8)) {
            case 0: both.about(index(4), index(parts)); break;
            case 1: both.byteOf(index(parts), index(30)); break;
            case 2: both.file(index(both.model.file().length)); break;
            case 3: both.out(index(both.model.came().length)); break;
            case 4: both.fault(index(6), index(3)); break;
            case 5: both.relations(oneThatHasSome()); break;
            case 6: both.relation(oneThatHasSome(), index(3)); break;
            default: both.again(0); break;
        }
    }
}
