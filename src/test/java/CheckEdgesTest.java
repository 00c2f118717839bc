/** Promises 16 and 17, CHECKING: a test of its own for each sentence that names an edge. */
public final class CheckEdgesTest {
    private static final String LONGEST = "abcdefghijklmnopqrstuvwx";

    public static void main(String[] args) {
        noPartsAtAll();
        rootAlone();
        withoutRootAll();
        whatIsCalledRoot();
        relationsThemselvesAreNotLookedAt();
        relationsOfRelations();
        nameLessRelsIsNoPart();
        theMarkup();
        aMarkupWithAFaultHasNoRelations();
        anIdThatStoodBefore();
        idsThatAreNotTheSame();
        idsOfOtherRelations();
        aToThatIsNoPart();
        aToThatIsAPart();
        twoAndThreeInThisOrder();
        inTheOrderOfParts();
        unreachedBehindAllOfThese();
        reachedByMoreThanOne();
        reachedRoundAndRound();
        notReachedBackward();
        notReachedThroughRelations();
        relationsNeedNotBeReached();
        faultBeforeCheck();
        faultsNumberAndWhat();
        ofThePartsThen();
        theLatestCheckCounts();
        checkChangesNothing();
        mostFaults();
        Kit.end();
    }

    private static String to(String... names) {
        StringBuilder text = new StringBuilder("<rels>");
        for (int k = 0; k < names.length; k++) {
            text.append("<rel id='").append(k).append("' to='").append(names[k]).append("'/>");
        }
        return text.append("</rels>").toString();
    }

    private static String ids(String... ids) {
        StringBuilder text = new StringBuilder("<rels>");
        for (String id : ids) {
            text.append("<rel id='").append(id).append("' to='root'/>");
        }
        return text.append("</rels>").toString();
    }

    /** Root alone, and what tells its relations. */
    private static Run root(String told) {
        return new Run().with("root", "").with("root.rels", told);
    }

    private static void due(String what, Run run, String want) {
        Kit.due(what, run.checked(), want);
    }

    private static void noPartsAtAll() {
        due("none", new Run(), "");
        Run run = new Run().with("a", "");
        run.remove("a");
        due("none any more", run, "");
    }

    // "is not called root"
    private static void rootAlone() {
        due("root", new Run().with("root", ""), "");
        due("root with no relations told", root("<rels/>"), "");
        due("root to itself", root(to("root")), "");
    }

    // "without a part root all (but relations)"
    private static void withoutRootAll() {
        due("one", new Run().with("a", ""), "4.0.0");
        due("two, one tells the other's relations", new Run().with("a", "").with("a.rels", to("b")).with("b", ""), "4.0.0 4.2.0");
        due("they reach one another", new Run().with("a", "").with("a.rels", to("b")).with("b", "").with("b.rels", to("a")),
            "4.0.0 4.2.0");
        Run run = new Run();
        StringBuilder want = new StringBuilder();
        for (int k = 0; k < 16; k++) {
            run.add("p" + (char) ('a' + k), "");
            want.append(k == 0 ? "" : " ").append("4.").append(k).append(".0");
        }
        due("sixteen", run, want.toString());
    }

    private static void whatIsCalledRoot() {
        for (String name : new String[] {"roo", "roots", "root0", "root.", "xroot", "a/root", "root/a", "_root", "toor", "r"}) {
            due(name, new Run().with(name, ""), "4.0.0");
        }
        // Without a part root these are relations of none, and reach nothing.
        due("root.rels alone", new Run().with("a", "").with("root.rels", to("a")), "4.0.0 4.1.0");
    }

    // "all parts that are no relations themselves (their name less .rels is that of no part)"
    private static void relationsThemselvesAreNotLookedAt() {
        Run run = root("<rels/>").with("root.rels.rels", "<");
        due("what tells the relations of relations", run, "");
        Kit.due("though it has a fault", run.relations(1), -1);
        run.add("root.rels.rels", ids("x", "x"));
        due("though an id stands twice", run, "");
        run.add("root.rels.rels", to("none"));
        due("though a to is no part", run, "");
        Kit.due("though it has a relation", run.relation(1, 0), -1);
    }

    private static void relationsOfRelations() {
        // Of a.rels.rels the name less .rels is a part's, though that is relations itself.
        Run run = new Run().with("a", "").with("a.rels", "<rels/>").with("a.rels.rels", "<rels/>").with("a.rels.rels.rels", "<");
        due("only a", run, "4.0.0");
        run.remove("a");
        // Now a.rels is a part like others, and its relations are told.
        due("only a.rels", run, "4.0.0");
        run.remove("a.rels");
        due("only a.rels.rels, with a fault", run, "1.0.1 4.0.0");
    }

    private static void nameLessRelsIsNoPart() {
        due("no a", new Run().with("a.rels", "<").with("root", ""), "4.0.0");
        due("no name is left", new Run().with(".rels", "<").with("root", ""), "4.0.0");
        due("a piece", new Run().with("a/.rels", "<").with("root", ""), "4.0.0");
        due("another end", new Run().with("a", "").with("a.rel", "").with("a.relsx", "").with("arels", "").with("a/rels", "")
            .with("a_rels", ""), "4.0.0 4.1.0 4.2.0 4.3.0 4.4.0 4.5.0");
        String most = LONGEST.substring(0, 19);
        due("24 bytes", new Run().with(most, "").with(most + ".rels", "<rels/>"), "4.0.0");
        due("24 bytes of none", new Run().with(most.substring(1), "").with(most + ".rels", "<rels/>"), "4.0.0 4.1.0");
    }

    // "the markup (1)", "for a markup its place"
    private static void theMarkup() {
        due("no byte", root(""), "1.0.0");
        due("the first byte", root("x"), "1.0.0");
        due("the last byte", root("<rels/>x"), "1.0.7");
        due("behind the last byte", root("<rels>"), "1.0.6");
        due("4000 bytes", root(" ".repeat(4000)), "1.0.4000");
        due("of a part that is not reached", new Run().with("a", "").with("a.rels", "<").with("root", ""), "1.0.1 4.0.0");
        due("two of them", root("<rel").with("a", "").with("a.rels", "<"), "1.0.1 1.2.4 4.0.0");
    }

    // "A part whose markup has a fault has no relations."
    private static void aMarkupWithAFaultHasNoRelations() {
        Run run = new Run().with("a", "").with("root", "").with("root.rels", to("a"));
        due("reached", run, "");
        run.add("root.rels", to("a") + "x");
        due("not by a markup with a fault", run, "1.1.33 4.0.0");
        run.add("root.rels", "<rels><rel id='x' to='none'/><rel id='x' to='none'/>");
        due("nor are its relations looked at", run, "1.1.52 4.0.0");
    }

    // "an id that stood before among the same relations (2)"
    private static void anIdThatStoodBefore() {
        due("once", root(ids("x", "y")), "");
        due("twice", root(ids("x", "x")), "2.0.1");
        due("three times", root(ids("x", "x", "x")), "2.0.1 2.0.2");
        due("with others between", root(ids("x", "y", "z", "x", "y")), "2.0.3 2.0.4");
        due("of one byte and of eight", root(ids("1", "12345678", "1", "12345678")), "2.0.2 2.0.3");
        due("written otherwise", root(ids("&amp;", "&#38;")), "2.0.1");
        due("the other way round", root("<rels><rel to='root' id='x'/><rel id=\"x\" to='root'/></rels>"),
            "2.0.1");
    }

    private static void idsThatAreNotTheSame() {
        due("longer", root(ids("x", "xx", "xxx", "xxxxxxx", "xxxxxxxx")), "");
        due("capitals", root(ids("x", "X")), "");
        due("spaces", root(ids("x", "x ", " x", " ", "  ")), "");
        due("the first byte", root(ids("a2345678", "b2345678")), "");
        due("the last byte", root(ids("1234567a", "1234567b")), "");
        due("what it goes to", root("<rels><rel id='x' to='root'/><rel id='root' to='root'/></rels>"), "");
    }

    private static void idsOfOtherRelations() {
        due("the same id", new Run().with("a", "").with("a.rels", ids("x")).with("root", "").with("root.rels", to("a")), "");
        due("the same number", new Run().with("a", "").with("a.rels", to("root")).with("root", "").with("root.rels", to("a")), "");
    }

    // "a to that is no part (3 ..)"
    private static void aToThatIsNoPart() {
        due("none", root(to("none")), "3.0.0");
        due("the last one", root(to("root", "root", "none")), "3.0.2");
        due("each of them", root(to("a", "b", "c")), "3.0.0 3.0.1 3.0.2");
        due("the same twice", root(to("a", "a")), "3.0.0 3.0.1");
        due("one that begins so", root(to("roo", "root0", "root.", "a/root")),
            "3.0.0 3.0.1 3.0.2 3.0.3");
        due("24 bytes", root(to(LONGEST)), "3.0.0");
    }

    private static void aToThatIsAPart() {
        due("itself", root(to("root")), "");
        due("relations", root(to("root.rels")), "");
        due("24 bytes", new Run().with(LONGEST, "").with("root", "").with("root.rels", to(LONGEST)), "");
        due("the same twice", new Run().with("a", "").with("root", "").with("root.rels", to("a", "a")), "");
    }

    // "(of one relation 2 and 3 both, in this order)"
    private static void twoAndThreeInThisOrder() {
        due("both", root("<rels><rel id='x' to='a'/><rel id='x' to='b'/></rels>"),
            "3.0.0 2.0.1 3.0.1");
        // "the relations of each in the order in which they stand"
        due("relation by relation", new Run().with("root", "").with("root.rels",
            "<rels><rel id='x' to='a'/><rel id='x' to='root'/><rel id='y' to='b'/><rel id='y' to='c'/></rels>"),
            "3.0.0 2.0.1 3.0.2 2.0.3 3.0.3");
    }

    // "in order", "the part told is the one whose relations they are"
    private static void inTheOrderOfParts() {
        due("three parts", root(to("b", "none", "a")).with("b", "").with("b.rels", "<")
            .with("a", "").with("a.rels", ids("x", "x")), "2.0.1 1.2.1 3.4.1");
    }

    // "Behind all of these, in order: a part that .. can't be reached from root by relations .. (4)"
    private static void unreachedBehindAllOfThese() {
        due("behind", root(to("b", "nor")).with("a", "").with("b", "").with("c", "").with("c.rels", to("none")),
            "3.2.0 3.4.1 4.0.0 4.2.0");
    }

    private static void reachedByMoreThanOne() {
        // From root on to the one that stands first in order, one by one.
        Run run = root(to("g"));
        for (char c = 'g'; c > 'a'; c--) {
            run.add("" + c, "");
            run.add(c + ".rels", to("" + (char) (c - 1)));
        }
        run.add("a", "");
        due("backward", run, "");
        run.add("d.rels", to("e"));
        due("cut", run, "4.0.0 4.1.0 4.3.0");
        Run forward = root(to("s"));
        for (char c = 's'; c < 'y'; c++) {
            forward.add("" + c, "");
            forward.add(c + ".rels", to("" + (char) (c + 1)));
        }
        forward.add("y", "");
        due("forward", forward, "");
        due("by the second relation", new Run().with("a", "").with("b", "").with("root", "").with("root.rels", to("b", "a")), "");
    }

    private static void reachedRoundAndRound() {
        due("to one another", new Run().with("a", "").with("a.rels", to("b")).with("b", "").with("b.rels", to("a")).with("root", "")
            .with("root.rels", to("a")), "");
        due("back to root", new Run().with("a", "").with("a.rels", to("root")).with("root", "").with("root.rels", to("a")), "");
        due("a round that root does not reach", new Run().with("a", "").with("a.rels", to("b")).with("b", "").with("b.rels", to("a"))
            .with("root", ""), "4.0.0 4.2.0");
    }

    private static void notReachedBackward() {
        due("to root", new Run().with("a", "").with("a.rels", to("root")).with("root", ""), "4.0.0");
    }

    // "by relations (of parts that are no relations themselves)"
    private static void notReachedThroughRelations() {
        due("through a.rels", new Run().with("a", "").with("a.rels", "<rels/>").with("a.rels.rels", to("b")).with("b", "")
            .with("root", "").with("root.rels", to("a", "a.rels")), "4.3.0");
        // Neither what they tell nor what an earlier check found counts.
        Run run = root(to("b.rels")).with("a", "").with("b.rels", "<rels/>").with("b.rels.rels", to("a"));
        due("through a part that is no relations yet", run, "");
        run.add("b", "");
        due("through relations", run, "4.0.0 4.1.0");
        run.add("0", "");
        due("with another part", run, "4.0.0 4.1.0 4.2.0");
        run.remove("a");
        run.remove("0");
        due("nor the first part", run, "4.0.0");
        // Without the part a it is no relations, and b is reached.
        due("through a part like others", new Run().with("a.rels", "<rels/>").with("a.rels.rels", to("b")).with("b", "")
            .with("root", "").with("root.rels", to("a.rels")), "");
    }

    // "a part that is no relations itself"
    private static void relationsNeedNotBeReached() {
        due("root.rels", root("<rels/>"), "");
        due("a's", new Run().with("a", "").with("a.rels", "<rels/>").with("root", ""), "4.0.0");
    }

    // "IndexOutOfBoundsException when there is no such fault or what."
    private static void faultBeforeCheck() {
        Run run = new Run().with("a", "");
        for (int what = -1; what < 4; what++) {
            int asked = what;
            Kit.dueThrow("before check", Kit.INDEX, () -> run.fault(0, asked));
        }
        run.relations(0);
        Kit.dueThrow("still before check", Kit.INDEX, () -> run.fault(0, 0));
    }

    private static void faultsNumberAndWhat() {
        Run run = new Run().with("a", "").with("b", "");
        Kit.due("two", run.check(), 2);
        Kit.due("the first one", run.fault(0, 1), 0);
        Kit.due("the last one", run.fault(1, 1), 1);
        for (int k : new int[] {-1, 2, 3, 1000, Integer.MIN_VALUE, Integer.MAX_VALUE}) {
            for (int what = 0; what < 3; what++) {
                int asked = what;
                Kit.dueThrow("fault " + k, Kit.INDEX, () -> run.fault(k, asked));
            }
        }
        for (int what : new int[] {-1, 3, 4, 256, Integer.MIN_VALUE, Integer.MAX_VALUE}) {
            Kit.dueThrow("what " + what, Kit.INDEX, () -> run.fault(0, what));
            Kit.dueThrow("what " + what + " of no fault", Kit.INDEX, () -> run.fault(2, what));
        }
        Run none = new Run().with("root", "");
        Kit.due("no faults", none.check(), 0);
        Kit.dueThrow("no fault", Kit.INDEX, () -> none.fault(0, 0));
    }

    // "1 of which part (its number then)"
    private static void ofThePartsThen() {
        Run run = new Run().with("b", "").with("root", "").with("root.rels", to("root", "none"));
        run.check();
        run.add("a", "");
        run.add("none", "");
        Kit.due("as they were", run.faults(), "3.1.1 4.0.0");
        run.remove("root.rels");
        run.remove("b");
        run.remove("root");
        Kit.due("though they are gone", run.faults(), "3.1.1 4.0.0");
        run.tape(new Zip().done()).read();
        Kit.due("though others were read", run.faults(), "3.1.1 4.0.0");
        run.add("x", "");
        run.relations(0);
        Kit.due("relations change nothing", run.faults(), "3.1.1 4.0.0");
    }

    // "of the latest check()"
    private static void theLatestCheckCounts() {
        Run run = new Run().with("a", "").with("b", "").with("c", "");
        due("three", run, "4.0.0 4.1.0 4.2.0");
        run.remove("a");
        run.remove("b");
        due("one", run, "4.0.0");
        run.add("root", "");
        run.add("root.rels", "<");
        due("two", run, "1.1.1 4.0.0");
        run.add("root.rels", to("c"));
        due("none", run, "");
    }

    private static void checkChangesNothing() {
        Run run = new Run();
        run.write();
        run.with("a", "1").with("root", "").with("root.rels", to("none")).tape("out").press();
        run.check();
        String before = run.seen();
        run.tape("tape");
        run.check();
        run.dueTape("check", Kit.bytes("tape"));
        Kit.due("check", run.seen(), before);
    }

    // "12000 in all": so many faults can there be
    private static void mostFaults() {
        byte[] all = Kit.join(Kit.bytes("<rels>"), Kit.filled("<rel id='x' to='n'/>", 199 * 20), Kit.bytes("</rels>"));
        Run run = new Run().with("a", "").with("a.rels", all).with("b", "").with("b.rels", all).with("c", "").with("c.rels", all);
        int each = 198 + 199;
        Kit.due("how many", run.check(), 3 * each + 3);
        for (int part = 0; part < 3; part++) {
            Kit.due("the first one's kind", run.fault(part * each, 0), 3);
            Kit.due("the first one's part", run.fault(part * each, 1), 2 * part);
            Kit.due("the last one's kind", run.fault(part * each + each - 1, 0), 3);
            Kit.due("the last one's relation", run.fault(part * each + each - 1, 2), 198);
            Kit.due("the one before it", run.fault(part * each + each - 2, 0), 2);
            Kit.due("not reached", run.fault(3 * each + part, 0), 4);
            Kit.due("its part", run.fault(3 * each + part, 1), 2 * part);
            Kit.due("no number", run.fault(3 * each + part, 2), 0);
        }
        Kit.dueThrow("no more", Kit.INDEX, () -> run.fault(3 * each + 3, 0));
    }
}
