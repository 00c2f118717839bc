import java.util.Random;

/** Promises 18, 19: markups and their faults, as relations, relation and check tell them. */
public final class MarkupTest {
    public static void main(String[] args) {
        right();
        faultsOfTags();
        faultsOfAttributes();
        faultsOfValues();
        comments();
        everyPrefix();
        mostRelations();
        whoseRelations();
        whereTheyGo();
        againstOracle();
        Kit.end();
    }

    /** Want: how many relations, or the fault's place less 1000. */
    private static void due(byte[] markup, int want) {
        String what = new String(markup, java.nio.charset.StandardCharsets.ISO_8859_1);
        MarkupOracle oracle = new MarkupOracle(markup);
        Kit.due(what + " by the oracle", oracle.fault < 0 ? oracle.ids.size() : oracle.fault - 1000, want);
        Run book = new Run();
        Kit.add(book, "a", "");
        Kit.add(book, "root", "");
        Kit.add(book, "root.rels", markup);
        Kit.due(what, book.relations(1), want < -1 ? -1 : want);
        int faults = book.check();
        if (want < -1) {
            Kit.due(what + ", kind", book.fault(0, 0), 1);
            Kit.due(what + ", part", book.fault(0, 1), 1);
            Kit.due(what + ", place", book.fault(0, 2), want + 1000);
            Kit.dueThrow(what + ", no relation", Kit.INDEX, () -> book.relation(1, 0));
        } else if (faults > 0) {
            Kit.due(what + ", no markup fault", book.fault(0, 0) == 1, false);
        }
    }

    private static void due(String markup, int want) {
        due(Kit.bytes(markup), want);
    }

    private static void fault(String markup, int place) {
        due(markup, place - 1000);
    }

    private static void right() {
        due("<rels/>", 0);
        due(" \t\r\n<rels \t\r\n/> \t\r\n", 0);
        due("<rels></rels>", 0);
        due("<rels >  </rels\n>", 0);
        due("<rels><rel id=\"x\" to=\"a\"/></rels>", 1);
        due("<rels><rel to='a' id='x'/><rel id='y' to='a'></rel></rels>", 2);
        due("<rels> <rel\tid='x'\n to='a'\r/> <rel  id='y'  to='a'  >  </rel > </rels >", 2);
        due("<rels><rel id='12345678' to='abcdefghijklmnopqrstuvwx'/></rels>", 1);
        due("<rels><rel id='\"&amp;&lt;&gt;&quot;&apos;' to='a'/></rels>", 1);
        due("<rels><rel id=\"'&#32;&#126;&#38;>=/ \" to='&#97;'/></rels>", 1);
    }

    private static void faultsOfTags() {
        fault("", 0);
        fault("  ", 2);
        fault("x", 0);
        fault("<", 1);
        fault("<x", 1);
        fault("</rels>", 1);
        fault("<rel/>", 4);
        fault("<rel", 4);
        fault("<rels", 5);
        fault("<relsx/>", 5);
        fault("<rels x/>", 6);
        fault("<rels/", 6);
        fault("<rels/ >", 6);
        fault("<rels//>", 6);
        fault("<rels>", 6);
        fault("<rels>x</rels>", 6);
        fault("<rels><x", 7);
        fault("<rels></", 8);
        fault("<rels></rel>", 11);
        fault("<rels></ rels>", 8);
        fault("<rels></rels", 12);
        fault("<rels></rels x>", 13);
        fault("<rels></rels/>", 12);
        fault("<rels/>x", 7);
        fault("<rels/><", 8);
        fault("<rels/><rels/>", 8);
        fault("<rels/></rels>", 8);
        fault("<rels></rels><rels/>", 14);
        fault("<rels><rels></rels></rels>", 10);
        fault("\u0000<rels/>", 0);
        fault("\u00ef<rels/>", 0);
        fault("<RELS/>", 1);
        fault("<rels><rel id='x' to='a'/ ></rels>", 25);
        fault("<rels><rel id='x' to='a'>x</rel></rels>", 25);
        fault("<rels><rel id='x' to='a'><rel id='y' to='a'/></rel></rels>", 26);
        fault("<rels><rel id='x' to='a'></rels></rels>", 30);
        fault("<rels><rel id='x' to='a'></rels>", 30);
        fault("<rels><rel id='x' to='a'></rels", 30);
    }

    private static void faultsOfAttributes() {
        fault("<rels><rel/></rels>", 10);
        fault("<rels><rel></rel></rels>", 10);
        fault("<rels><rel id='x'/></rels>", 17);
        fault("<rels><rel to='a' ></rel></rels>", 18);
        fault("<rels><rel id='x'x", 17);
        fault("<rels><rel id='x'to='a'/></rels>", 17);
        fault("<rels><relid='x' to='a'/></rels>", 10);
        fault("<rels><rel id='x' id='y' to='a'/></rels>", 18);
        fault("<rels><rel id='x' to='a' to='a'/></rels>", 25);
        fault("<rels><rel id='x' to='a' x='a'/></rels>", 25);
        fault("<rels><rel idx='x' to='a'/></rels>", 11);
        fault("<rels><rel i='x' to='a'/></rels>", 11);
        fault("<rels><rel idz='x' to='a'/></rels>", 11);
        fault("<rels><rel ida='x' to='a'/></rels>", 11);
        fault("<rels><rel id{='x' to='a'/></rels>", 13);
        fault("<rels><rel id`='x' to='a'/></rels>", 13);
        fault("<rels><rel i", 11);
        fault("<rels><rel id", 13);
        fault("<rels><rel ID='x' to='a'/></rels>", 11);
        fault("<rels><rel ='x' to='a'/></rels>", 11);
        fault("<rels><rel id ='x' to='a'/></rels>", 13);
        fault("<rels><rel id= 'x' to='a'/></rels>", 14);
        fault("<rels><rel id=x to='a'/></rels>", 14);
        fault("<rels><rel id='x' to='a' <", 25);
    }

    private static void faultsOfValues() {
        fault("<rels><rel id='' to='a'/></rels>", 15);
        fault("<rels><rel id='123456789' to='a'/></rels>", 24);
        fault("<rels><rel id='x' to=''/></rels>", 22);
        fault("<rels><rel id='x' to='a/'/></rels>", 24);
        fault("<rels><rel id='x' to='.'/></rels>", 23);
        fault("<rels><rel id='x' to='A'/></rels>", 23);
        fault("<rels><rel id='x' to='abcdefghijklmnopqrstuvwxy'/></rels>", 47);
        fault("<rels><rel id='x\"/></rels>", 19);
        fault("<rels><rel id=\"x'", 17);
        fault("<rels><rel id='a<b'", 16);
        fault("<rels><rel id='a\tb'", 16);
        fault("<rels><rel id='a\u007fb'", 16);
        fault("<rels><rel id='a\u00e4b'", 16);
        fault("<rels><rel id='a~ b", 19);
        fault("<rels><rel id='&'", 16);
        fault("<rels><rel id='&", 16);
        fault("<rels><rel id='&;'", 16);
        fault("<rels><rel id='&x;'", 16);
        fault("<rels><rel id='&am", 16);
        fault("<rels><rel id='&ampx;'", 16);
        fault("<rels><rel id='&ampz;'", 16);
        fault("<rels><rel id='&amp1;'", 19);
        fault("<rels><rel id='&amp'", 19);
        fault("<rels><rel id='&amp", 19);
        fault("<rels><rel id='&AMP;'", 16);
        fault("<rels><rel id='& amp;'", 16);
        fault("<rels><rel id='&#'", 17);
        fault("<rels><rel id='&#;'", 17);
        fault("<rels><rel id='&#x41;'", 17);
        fault("<rels><rel id='&#31;'", 17);
        fault("<rels><rel id='&#127;'", 17);
        fault("<rels><rel id='&#065;'", 17);
        fault("<rels><rel id='&#0;'", 17);
        fault("<rels><rel id='&#1234;'", 20);
        fault("<rels><rel id='&#999;'", 17);
        fault("<rels><rel id='&#65'", 19);
        fault("<rels><rel id='&#65x'", 19);
        fault("<rels><rel id='&#6", 17);
        fault("<rels><rel id='&#65", 19);
    }

    private static void comments() {
        due("<!----><rels/><!-- - -> <!- \u0000\u00ff -->", 0);
        due("<!--x--> <!--y--><rels><!----> <rel id='x' to='a'><!--<rel-->\n<!-- --></rel><!--z--></rels><!--->-->", 1);
        fault("<!", 2);
        fault("<!x", 2);
        fault("<!-", 3);
        fault("<!-x", 3);
        fault("<!--", 4);
        fault("<!-->", 5);
        fault("<!--x-", 6);
        fault("<!--x--", 7);
        fault("<!--x--x--><rels/>", 7);
        fault("<!--x--><!--", 12);
        fault("<rels/><!-- -- >", 14);
        fault("<rels/><!-- --", 14);
        fault("<rels><!-x", 9);
        fault("<rels <!--x-->/>", 6);
        fault("<rels><rel <!-- -->id='x' to='a'/></rels>", 11);
        fault("<rels><rel id='x' to='a'><!-- ", 30);
    }

    private static void everyPrefix() {
        String whole = "<!--c--> <rels ><rel id='&amp;' to='&#97;'/> <rel to=\"a\" id=\"y\"> <!-- --> </rel ></rels > <!--d-->";
        due(whole, 2);
        for (int n = 0; n < whole.length(); n++) {
            byte[] part = Kit.bytes(whole.substring(0, n));
            MarkupOracle oracle = new MarkupOracle(part);
            due(part, oracle.fault < 0 ? 2 : oracle.fault - 1000);
            // Where the next part goes on with what is missing, that does not count.
            Run book = new Run();
            Kit.add(book, "root", "");
            Kit.add(book, "root.rels", part);
            Kit.add(book, "root.relsx", whole.substring(n));
            Kit.due("cut at " + n, book.relations(0), oracle.fault < 0 ? 2 : -1);
            book.check();
            Kit.due("cut at " + n + ", place", book.fault(0, 0) == 1 ? book.fault(0, 2) : -1, oracle.fault);
        }
    }

    private static void mostRelations() {
        byte[] all = Kit.join(Kit.bytes("<rels>"), Kit.filled("<rel id=\"a\" to=\"b\"/>", 199 * 20), Kit.bytes("</rels>"));
        due(all, 199);
        Run book = new Run();
        for (String name : new String[] {"root", "x", "y"}) {
            Kit.add(book, name, "");
            Kit.add(book, name + ".rels", all);
        }
        // Of each: 198 ids again, 199 that go to no part; and two parts that can't be reached.
        Kit.due("all faults", book.check(), 3 * (198 + 199) + 2);
        Kit.due("last one", book.fault(3 * (198 + 199) + 1, 1), 4);
        Kit.due("its kind", book.fault(3 * (198 + 199) + 1, 0), 4);
        Kit.due("the one before", book.fault(3 * (198 + 199) - 1, 2), 198);
        byte[] open = Kit.filled("<rels><rel id=\"a\" to=\"b\"/>", 4000);
        Kit.add(book, "x.rels", open);
        Kit.due("a fault", book.relations(2), -1);
    }

    private static void whoseRelations() {
        Run book = new Run();
        String one = "<rels><rel id='x' to='a'/></rels>";
        Kit.add(book, "a", "");
        Kit.due("nobody tells", book.relations(0), 0);
        Kit.dueThrow("no relation", Kit.INDEX, () -> book.relation(0, 0));
        Kit.dueThrow("no part 1", Kit.INDEX, () -> book.relations(1));
        Kit.dueThrow("no part -1", Kit.INDEX, () -> book.relations(-1));
        Kit.dueThrow("no part 1, relation", Kit.INDEX, () -> book.relation(1, 0));
        Kit.dueThrow("no part -1, relation", Kit.INDEX, () -> book.relation(-1, 0));
        Kit.add(book, "a.rels", one);
        Kit.due("a", book.relations(0), 1);
        Kit.due("a.rels", book.relations(1), 0);
        Kit.add(book, "a.rels.rels", "<rels><rel id='x' to='a.rels'/><rel id='y' to='a.rels.rels'/></rels>");
        Kit.due("a still", book.relations(0), 1);
        Kit.due("a.rels has some, too", book.relations(1), 2);
        Kit.due("to itself", book.relation(1, 0), 1);
        Kit.due("to the one behind", book.relation(1, 1), 2);
        Kit.due("a.rels.rels", book.relations(2), 0);
        Kit.dueThrow("relation 2", Kit.INDEX, () -> book.relation(1, 2));
        Kit.dueThrow("relation -1", Kit.INDEX, () -> book.relation(1, -1));
        Kit.dueThrow("relation of none", Kit.INDEX, () -> book.relation(2, 0));
        Kit.add(book, "abcdefghijklmnopqrst", "");
        Kit.due("too long to be told", book.relations(3), 0);
        Kit.add(book, "bcdefghijklmnopqrst", "");
        Kit.add(book, "bcdefghijklmnopqrst.rels", one);
        Kit.due("longest", book.relations(4), 1);
    }

    private static void whereTheyGo() {
        Run book = new Run();
        Kit.add(book, "b", "");
        Kit.add(book, "b.rels", "<rels><rel id='x' to='c'/><rel id='y' to='b'/><rel id='z' to='a'/></rels>");
        Kit.due("no c", book.relation(0, 0), -1);
        Kit.due("b", book.relation(0, 1), 0);
        Kit.due("no a", book.relation(0, 2), -1);
        Kit.add(book, "a", "");
        Kit.add(book, "c", "");
        Kit.due("c", book.relation(1, 0), 3);
        Kit.due("b moved", book.relation(1, 1), 1);
        Kit.due("a", book.relation(1, 2), 0);
        Kit.remove(book, "b.rels");
        Kit.due("gone", book.relations(1), 0);
    }

    private static String some(Random random, String... all) {
        return all[random.nextInt(all.length)];
    }

    private static String gap(Random random) {
        return some(random, "", "", "", " ", "\n\t", "<!--x-->", " <!-- - --> ", "<!----><!---->");
    }

    private static String element(Random random) {
        String q = some(random, "'", "\"");
        String id = "id=" + q + some(random, "x", "y", "12345678", "&amp;", "&#65;", "a b", "&lt;&gt;", "&quot;") + q;
        String to = "to=" + q + some(random, "a", "root", "none", "&#97;", "b/c", "root.rels") + q;
        String both = random.nextBoolean() ? " " + id + " " + to : " " + to + "\t " + id;
        return "<rel" + both + some(random, "/>", " />", "></rel>", ">" + gap(random) + "</rel >");
    }

    private static void againstOracle() {
        Random random = new Random(18);
        String letters = "<>/!-= \t\"'&#;relsidtoamp0129x\u0000\u00ff";
        int rights = 0;
        for (int round = 0; round < 40000; round++) {
            StringBuilder text = new StringBuilder(gap(random) + "<rels" + some(random, "", " ") + ">");
            for (int k = random.nextInt(4); k > 0; k--) {
                text.append(gap(random)).append(element(random));
            }
            text.append(gap(random)).append("</rels>").append(gap(random));
            for (int k = random.nextInt(4) - 1; k > 0 && text.length() > 0; k--) {
                int at = random.nextInt(text.length());
                int kind = random.nextInt(4);
                if (kind != 0) {
                    text.deleteCharAt(at);
                }
                if (kind < 2) {
                    text.insert(at, letters.charAt(random.nextInt(letters.length())));
                } else if (kind == 2 && random.nextInt(5) == 0) {
                    text.setLength(at);
                }
            }
            byte[] markup = Kit.bytes(text.toString());
            MarkupOracle oracle = new MarkupOracle(markup);
            rights += oracle.fault < 0 ? 1 : 0;
            due(markup, oracle.fault < 0 ? oracle.ids.size() : oracle.fault - 1000);
        }
        Kit.due("many right ones", rights > 9000, true);
        Kit.due("many faults", rights < 31000, true);
    }
}
