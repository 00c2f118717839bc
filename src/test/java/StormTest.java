import java.util.Random;

/** Calls of every kind with arguments of every kind: nothing but the exceptions that the face names reaches the caller. */
public final class StormTest {
    private static final int[] EDGES = {
        Integer.MIN_VALUE, -2, -1, 0, 1, 2, 3, 4, 8, 9, 16, 17, 22, 24, 25, 255, 256, 4000, 8000, 14006, Integer.MAX_VALUE
    };
    // A row is typed by some calls, with two round them.
    private static final int MOST_AT_ONCE = 12;
    private static final String[] ROWS = {
        "root", "root.rels<rels><rel id='a' to='b'/></rels>", "a.rels<rels><rel id='a' to='a'></rel><!-- --></rels>",
        "b<rels><rel", "a.rels<rels><rel id='&#1", "c.rels.rels</", "root.rels<rels><rel id='a' to='", "x/y.rels&", "A"
    };

    public static void main(String[] args) {
        Random random = new Random(512);
        for (int round = 0; round < 3000; round++) {
            Run book = new Run();
            while (book.left() >= MOST_AT_ONCE) {
                int which = random.nextInt(20);
                try {
                    one(book, which, random);
                } catch (RuntimeException e) {
                    Kit.due("call " + which + " throws " + e.getClass(), named(which, e.getClass()), true);
                }
            }
        }
        Kit.end();
    }

    private static int some(Random random) {
        return random.nextBoolean() ? EDGES[random.nextInt(EDGES.length)] : random.nextInt(40);
    }

    private static int one(Run book, int which, Random random) {
        int a = some(random);
        int b = some(random);
        switch (which) {
            case 0: return book.type(random.nextLong(), a);
            case 1: return book.again(a);
            case 2: return book.add(a);
            case 3: return book.remove() ? 1 : 0;
            case 4: return book.about(a, b);
            case 5: return book.byteOf(a, b);
            case 6: return book.write();
            case 7: return book.file(a);
            case 8: return book.read();
            case 9: return book.reread(random.nextInt(400), random.nextInt(300) - 20);
            case 10: return book.press();
            case 11: return book.expand();
            case 12: return book.sum();
            case 13: return book.out(a);
            case 14: return book.check();
            case 15: return book.fault(a, b);
            case 16: return book.relations(a);
            case 17: return book.relation(a, b);
            default: return typeRow(book, random);
        }
    }

    private static int typeRow(Run book, Random random) {
        String row = ROWS[random.nextInt(ROWS.length)];
        book.sum();
        Kit.type(book, Kit.bytes(row));
        int name = Math.max(row.indexOf('<'), row.indexOf('&'));
        return book.add(name < 0 || random.nextInt(9) == 0 ? row.length() : name);
    }

    private static boolean named(int which, Class<?> thrown) {
        switch (which) {
            case 0: case 1: case 2: case 18: case 19: return thrown == Kit.ARGUMENT || thrown == Kit.UNSUPPORTED;
            case 4: case 5: case 7: case 13: case 15: case 16: case 17: return thrown == Kit.INDEX;
            case 9: return thrown == Kit.INDEX || thrown == Kit.ARGUMENT;
            case 10: return thrown == Kit.UNSUPPORTED;
            default: return false;
        }
    }
}
