import java.util.Random;
import java.util.TreeMap;

/** Promises 16, 17. */
public final class CheckTest {
    public static void main(String[] args) {
        root();
        relations();
        tellers();
        namesThatAreLike();
        latest();
        questions();
        againstOracle();
        Kit.end();
    }

    /** Each want: kind, part, number. */
    private static void due(String what, Run book, int[]... wants) {
        Kit.due(what + ", faults", book.check(), wants.length);
        for (int k = 0; k < wants.length; k++) {
            for (int ask = 0; ask < 3; ask++) {
                Kit.due(what + ", fault " + k + ", " + ask, book.fault(k, ask), wants[k][ask]);
            }
        }
        Kit.dueThrow(what + ", no more", Kit.INDEX, () -> book.fault(wants.length, 0));
    }

    private static int[] of(int kind, int part, int number) {
        return new int[] {kind, part, number};
    }

    private static String to(String... names) {
        StringBuilder text = new StringBuilder("<rels>");
        for (int k = 0; k < names.length; k++) {
            text.append("<rel id='r").append(k).append("' to='").append(names[k]).append("'/>");
        }
        return text.append("</rels>").toString();
    }

    private static void root() {
        Run book = new Run();
        due("no parts", book);
        Kit.add(book, "a", "");
        Kit.add(book, "b", "");
        due("no root", book, of(4, 0, 0), of(4, 1, 0));
        Kit.add(book, "a.rels", to("b"));
        due("no root, but relations", book, of(4, 0, 0), of(4, 2, 0));
        Kit.add(book, "root", "");
        due("root without relations", book, of(4, 0, 0), of(4, 2, 0));
        Kit.add(book, "root.rels", to("a"));
        due("all reached", book);
        Kit.add(book, "root.rels", to("b"));
        due("not backward", book, of(4, 0, 0));
        Kit.add(book, "b.rels", to("root", "a"));
        due("round", book);
        Kit.remove(book, "root");
        // Without root its relations are a part like others.
        due("root.rels alone", book, of(3, 2, 0), of(4, 0, 0), of(4, 2, 0), of(4, 4, 0));
        Kit.add(book, "x/root", "");
        due("another name", book, of(3, 2, 0), of(4, 0, 0), of(4, 2, 0), of(4, 4, 0), of(4, 5, 0));
    }

    private static void relations() {
        Run book = new Run();
        Kit.add(book, "a", "");
        Kit.add(book, "root", "");
        Kit.add(book, "root.rels", "<rels><rel id='x' to='a'/><rel id='x' to='none'/><rel id='y' to='a'/><rel id='&#120;' to='a'/>"
            + "<rel id='X' to='nor'/><rel id='xx' to='a'/></rels>");
        due("both", book, of(2, 1, 1), of(3, 1, 1), of(2, 1, 3), of(3, 1, 4));
        Kit.add(book, "a.rels", "<rels><rel id='x' to='root'/></rels> x");
        due("markup", book, of(1, 0, 37), of(2, 2, 1), of(3, 2, 1), of(2, 2, 3), of(3, 2, 4));
        Kit.add(book, "root.rels", "<rels><rel id='x' to='a'/>");
        due("a markup with a fault has no relations", book, of(1, 0, 37), of(1, 2, 26), of(4, 0, 0));
        Kit.add(book, "root.rels", "<rels><rel id='12345678' to='a'/><rel id='1234567' to='a'/><rel id='12345678' to='a'/></rels>");
        Kit.remove(book, "a.rels");
        due("long ids", book, of(2, 1, 2));
    }

    private static void tellers() {
        Run book = new Run();
        Kit.add(book, "root", "");
        Kit.add(book, "root.rels", to("root.rels", "a.rels"));
        Kit.add(book, "a", "");
        Kit.add(book, "a.rels", to("b"));
        Kit.add(book, "b", "");
        Kit.add(book, "a.rels.rels", to("b", "a") + "fault");
        // a.rels is reached, but it is relations itself: what it has does not count.
        due("through relations", book, of(4, 0, 0), of(4, 3, 0));
        Kit.add(book, "a.rels.rels", to("b", "a", "none"));
        due("not looked at", book, of(4, 0, 0), of(4, 3, 0));
        Kit.remove(book, "a");
        // Now a.rels is a part like others, and a.rels.rels tells its relations.
        due("like others", book, of(3, 0, 1), of(3, 0, 2));
        Kit.add(book, ".rels", "");
        Kit.add(book, "b/.rels", "");
        due("relations of none", book, of(3, 1, 1), of(3, 1, 2), of(4, 0, 0), of(4, 4, 0));
    }

    private static void namesThatAreLike() {
        Run book = new Run();
        Kit.add(book, "a", "");
        Kit.add(book, "a.relx", "");
        Kit.add(book, "axrels", "<");
        Kit.add(book, "b.rels", "<");
        Kit.add(book, "r/root", "");
        Kit.add(book, "roof", "");
        Kit.add(book, "root0", "");
        due("like root and relations", book, of(4, 0, 0), of(4, 1, 0), of(4, 2, 0), of(4, 3, 0), of(4, 4, 0), of(4, 5, 0), of(4, 6, 0));
        for (int i = 0; i < 7; i++) {
            Kit.due("no relations " + i, book.relations(i), 0);
        }
    }

    private static void latest() {
        Run book = new Run();
        Kit.add(book, "b", "");
        Kit.due("one", book.check(), 1);
        Kit.add(book, "a", "");
        Kit.add(book, "root", "");
        Kit.due("as it was then", book.fault(0, 1), 0);
        Kit.dueThrow("no second one", Kit.INDEX, () -> book.fault(1, 0));
        due("now", book, of(4, 0, 0), of(4, 1, 0));
        Kit.remove(book, "a");
        Kit.remove(book, "b");
        Kit.due("still", book.fault(1, 1), 1);
        due("none", book);
    }

    private static void questions() {
        Run book = new Run();
        Kit.dueThrow("before check", Kit.INDEX, () -> book.fault(0, 0));
        Kit.add(book, "a", "");
        Kit.type(book, Kit.bytes("b"));
        book.check();
        Kit.due("the tape stays", book.add(1), 2);
        Kit.dueThrow("what 3", Kit.INDEX, () -> book.fault(0, 3));
        Kit.dueThrow("what -1", Kit.INDEX, () -> book.fault(0, -1));
        Kit.dueThrow("fault -1", Kit.INDEX, () -> book.fault(-1, 0));
        Kit.dueThrow("fault 1", Kit.INDEX, () -> book.fault(1, 0));
    }

    private static void againstOracle() {
        Random random = new Random(16);
        String[] names = {"root", "root.rels", "a", "a.rels", "a.rels.rels", "b", "b.rels", "c", "c.rels", ".rels", "root.rels.rels"};
        String[] goals = {"root", "a", "b", "c", "a.rels", "none"};
        for (int round = 0; round < 4000; round++) {
            TreeMap<String, byte[]> parts = new TreeMap<>();
            Run book = new Run();
            for (String name : names) {
                if (random.nextInt(4) > 0) {
                    StringBuilder text = new StringBuilder("<rels>");
                    for (int k = random.nextInt(3); k > 0; k--) {
                        text.append("<rel id='").append(random.nextInt(3)).append("' to='")
                            .append(goals[random.nextInt(goals.length)]).append("'/>");
                    }
                    text.append(random.nextInt(8) == 0 ? "<" : "</rels>");
                    parts.put(name, Kit.bytes(text.toString()));
                    Kit.add(book, name, text.toString());
                }
            }
            due("round " + round, book, CheckOracle.faultsOf(parts));
        }
    }
}
