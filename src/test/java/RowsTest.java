/**
 * What must hold over a row of calls that come one behind the other: parts added, put in the place of others, removed,
 * written, read again and checked in turn. Each call of a row is made of the model, too; the answers that are told here
 * are those that the document asks for at the places where a row turns.
 */
public final class RowsTest {
    private static final byte[] MOST = Kit.filled("as many as a part can have; ", 4000);

    public static void main(String[] args) {
        addedInAnyOrder();
        putInThePlaceOfOthers();
        removedOneByOne();
        addedUntilThereIsNoRoomAndRemoved();
        filledWithBytesAndEmptied();
        writtenInTurn();
        readAgainInTurn();
        readFromTheTapeInTurn();
        faultsBetweenFilesThatAreRight();
        checkedInTurn();
        rootComesAndGoes();
        tellersComeAndGo();
        relationsFollowTheirParts();
        markupsInTurn();
        pressedAndExpandedInTurn();
        tapeOverCallsThatDoNotTakeIt();
        tapeBehindCallsThatTakeIt();
        theSameRowOnTwoObjects();
        Kit.end();
    }

    private static Both row(String what) {
        return new Both(what);
    }

    private static String to(String... names) {
        StringBuilder text = new StringBuilder("<rels>");
        for (int k = 0; k < names.length; k++) {
            text.append("<rel id='").append(k).append("' to='").append(names[k]).append("'/>");
        }
        return text.append("</rels>").toString();
    }

    private static void due(String what, Run run, String names, int bytes) {
        Kit.due(what + ", names", run.names(), names);
        Kit.due(what + ", bytes", run.about(3, 0), bytes);
    }

    private static void addedInAnyOrder() {
        Both run = row("added in any order");
        String[] names = {"m", "m/a", "m.a", "ma", "m_", "m0", "a", "z", "0", "_", "...", "mm/m"};
        for (int k = 0; k < names.length; k++) {
            Kit.due("how many", run.add(names[k], "bytes of " + names[k]), k + 1);
        }
        due("added", run, "... 0 _ a m m.a m/a m0 m_ ma mm/m z", 9 * 12 + 24);
        for (int i = 0; i < names.length; i++) {
            Kit.due("its own bytes", run.content(i), "bytes of " + run.name(i));
        }
    }

    private static void putInThePlaceOfOthers() {
        Both run = row("put in the place of others");
        run.with("a", "1").with("b", "22").with("c", "333");
        String[] instead = {"", "longer than it was", "x", "", "much longer than it ever was before this call", "22"};
        for (String bytes : instead) {
            for (String name : new String[] {"b", "a", "c"}) {
                Kit.due("as many parts", run.add(name, bytes), 3);
                Kit.due("it has those", run.content(name.charAt(0) - 'a'), bytes);
            }
            due("all have those", run, "a b c", 3 * bytes.length());
        }
    }

    private static void removedOneByOne() {
        Both run = row("removed one by one");
        for (int k = 0; k < 8; k++) {
            run.add("p" + k, "bytes".substring(0, k % 6));
        }
        String[] names = {"p0", "p7", "p3", "p5", "p4", "p1", "p6", "p2"};
        for (String name : names) {
            Kit.due("there", run.remove(name), true);
            Kit.due("gone", run.remove(name), false);
        }
        due("none", run, "", 0);
        Kit.due("one again", run.add("p5", "new"), 1);
        Kit.due("its bytes", run.content(0), "new");
    }

    private static void addedUntilThereIsNoRoomAndRemoved() {
        Both run = row("too many parts");
        for (int k = 0; k < 16; k++) {
            run.add("p" + (char) ('a' + k), "");
        }
        Kit.dueThrow("the 17th", Kit.UNSUPPORTED, () -> run.add("q", ""));
        Kit.due("one of the 16", run.add("pc", "x"), 16);
        run.remove("pa");
        Kit.due("the 16th", run.add("q", ""), 16);
        Kit.dueThrow("the 17th again", Kit.UNSUPPORTED, () -> run.add("pa", ""));
        int size = run.write();
        run.remove("q");
        run.remove("pc");
        Kit.due("fourteen", run.about(0, 0), 14);
        Kit.due("read again", run.reread(size - 1, 0), 0);
        Kit.dueThrow("all 16 are back", Kit.UNSUPPORTED, () -> run.add("pa", ""));
        due("as written", run, "pb pc pd pe pf pg ph pi pj pk pl pm pn po pp q", 1);
    }

    private static void filledWithBytesAndEmptied() {
        Both run = row("too many bytes");
        run.with("a", MOST).with("b", MOST).with("c", MOST);
        Kit.dueThrow("one more byte", Kit.UNSUPPORTED, () -> run.add("d", "x"));
        Kit.due("a part without bytes", run.add("d", ""), 4);
        Kit.due("those that it had do not count", run.add("b", MOST), 4);
        Kit.due("a byte less", run.add("a", Kit.filled("x", 3999)), 4);
        Kit.due("so there is room for one", run.add("d", "x"), 4);
        Kit.dueThrow("not for two", Kit.UNSUPPORTED, () -> run.add("d", "xy"));
        Kit.dueThrow("nor for its old bytes", Kit.UNSUPPORTED, () -> run.add("a", MOST));
        int size = run.write();
        run.remove("c");
        due("8000", run, "a b d", 8000);
        Kit.due("room for 4000", run.add("e", MOST), 4);
        Kit.due("read again", run.reread(0, 0), 0);
        due("as written", run, "a b c d", 12000);
        Kit.dueThrow("no room again", Kit.UNSUPPORTED, () -> run.add("e", "x"));
        Kit.due("the same file", run.write(), size);
        for (String name : new String[] {"a", "b", "c", "d"}) {
            run.remove(name);
        }
        Kit.due("room for all", run.add("e", MOST), 1);
    }

    private static void writtenInTurn() {
        Both run = row("written in turn");
        Kit.due("no parts", run.write(), 22);
        run.with("b", "plain").with("a", Kit.filled("pressed ", 80));
        int two = run.write();
        String file = run.file();
        Kit.due("all of it", file.length(), two);
        run.with("a", "").with("c", "new");
        Kit.due("the file that was written last", run.file(), file);
        run.remove("c");
        run.with("a", Kit.filled("pressed ", 80));
        Kit.due("the same parts", run.write(), two);
    }

    private static void readAgainInTurn() {
        Both run = row("read again in turn");
        run.with("a", "one").with("b", Kit.filled("two", 40));
        int size = run.write();
        for (int turn = 0; turn < 4; turn++) {
            run.with("c", "three").remove("a");
            due("changed", run, "b c", 45);
            Kit.due("a fault", run.reread(0, 1), 3);
            due("as it was", run, "b c", 45);
            Kit.due("read", run.reread(size - 1 - turn, 0), 0);
            due("as written", run, "a b", 43);
        }
        run.remove("b");
        Kit.due("the new file", run.write() < size, true);
        run.remove("a");
        Kit.due("is read", run.reread(0, 0), 0);
        due("as written last", run, "a", 3);
        // The record's and the entry's names must both be changed: one alone is a fault, and the file stays right.
        Kit.due("the record's name", run.reread(30, 3), 3);
        Kit.due("the bytes", run.reread(31, 1), 5);
        Kit.due("nothing", run.reread(31, 0), 0);
        due("still", run, "a", 3);
    }

    private static void readFromTheTapeInTurn() {
        Both run = row("read from the tape in turn");
        byte[] first = new Zip().part("a", "1").part("root", "22").done();
        byte[] second = new Zip().part("b", "333").done();
        run.with("old", "4444");
        int size = run.write();
        Kit.due("first", run.tape(first).read(), 0);
        due("the first file's", run, "a root", 3);
        Kit.due("second", run.tape(second).read(), 0);
        due("the second file's alone", run, "b", 3);
        Kit.due("no file", run.tape("PK").read(), 1);
        due("still", run, "b", 3);
        Kit.due("the one that was written stays", run.reread(size - 1, 0), 0);
        due("the written one's", run, "old", 4);
        Kit.due("first again", run.tape(first).read(), 0);
        Kit.due("and one more", run.add("c", "5"), 3);
        due("together", run, "a c root", 4);
        Kit.due("the empty tape is no file", run.read(), 1);
    }

    private static void faultsBetweenFilesThatAreRight() {
        Both run = row("faults between files that are right");
        byte[] late = new Zip().part("a", "1").part("b", "2").part("c", "3").part("A", "4").done();
        byte[] sum = new Zip().part("x", "1").part(wrongSum("y")).done();
        byte[] right = new Zip().part("x", "1").part("y", "2").done();
        run.with("root", "here").with("root.rels", to("root"));
        for (int turn = 0; turn < 3; turn++) {
            Kit.due("three parts are right, then no name", run.tape(late).read(), 4);
            due("nothing is changed", run, turn == 0 ? "root root.rels" : "x y", turn == 0 ? 40 : 2);
            Kit.due("one part is right, then its sum", run.tape(sum).read(), 5);
            Kit.due("right", run.tape(right).read(), 0);
            due("just these", run, "x y", 2);
        }
    }

    private static Zip.Part wrongSum(String name) {
        Zip.Part part = new Zip.Part(name, Kit.bytes("2"));
        part.sum ^= 1;
        return part;
    }

    private static void checkedInTurn() {
        Both run = row("checked in turn");
        run.with("b", "").with("root", "").with("root.rels", to("b", "none", "c"));
        Kit.due("two go nowhere", run.checked(), "3.1.1 3.1.2");
        run.with("a", "");
        Kit.due("those of the latest check", run.faults(), "3.1.1 3.1.2");
        Kit.due("its number is another one now", run.checked(), "3.2.1 3.2.2 4.0.0");
        run.with("c", "");
        Kit.due("c is there", run.checked(), "3.3.1 4.0.0");
        run.write();
        run.with("root.rels", to("a") + "<");
        Kit.due("a fault", run.checked(), "1.3.34 4.0.0 4.1.0 4.2.0");
        run.reread(0, 0);
        Kit.due("those of the latest check stay", run.faults(), "1.3.34 4.0.0 4.1.0 4.2.0");
        Kit.due("as written", run.checked(), "3.3.1 4.0.0");
        run.with("root.rels", to("a", "b", "c"));
        Kit.due("none", run.checked(), "");
        Kit.dueThrow("no fault is left", Kit.INDEX, () -> run.fault(0, 0));
    }

    private static void rootComesAndGoes() {
        Both run = row("root comes and goes");
        run.with("a", "").with("root", "").with("root.rels", to("a"));
        Kit.due("reached", run.checked(), "");
        run.remove("root");
        Kit.due("root.rels is a part like others", run.checked(), "4.0.0 4.1.0");
        run.with("root", "");
        Kit.due("reached again", run.checked(), "");
        run.remove("root.rels");
        Kit.due("root reaches none", run.checked(), "4.0.0");
        run.with("root.rels", to("a"));
        Kit.due("and again", run.checked(), "");
    }

    private static void tellersComeAndGo() {
        Both run = row("tellers come and go");
        run.with("root", "").with("root.rels", to("x")).with("x", "").with("x.rels", to("y", "nor")).with("y", "");
        Kit.due("x has two", run.relations(2), 2);
        Kit.due("one goes nowhere", run.checked(), "3.2.1");
        run.remove("x");
        Kit.due("x.rels has none", run.relations(2), 0);
        Kit.due("x is none, x.rels a part like others", run.checked(), "3.0.0 4.2.0 4.3.0");
        run.with("x.rels.rels", to("y"));
        Kit.due("x.rels has one now", run.relations(2), 1);
        run.with("root.rels", to("x.rels"));
        Kit.due("y by x.rels", run.checked(), "");
        run.with("x", "");
        Kit.due("x.rels is relations: what it has does not count", run.checked(), "3.2.1 4.2.0 4.5.0");
        run.with("root.rels", to("x"));
        Kit.due("y by x", run.checked(), "3.2.1");
    }

    private static void relationsFollowTheirParts() {
        Both run = row("relations follow their parts");
        run.with("m", "").with("m.rels", to("z", "m", "a"));
        Kit.due("no z", run.relation(0, 0), -1);
        run.with("z", "");
        Kit.due("z", run.relation(0, 0), 2);
        run.with("a", "");
        Kit.due("z is moved", run.relation(1, 0), 3);
        Kit.due("m is moved", run.relation(1, 1), 1);
        Kit.due("a", run.relation(1, 2), 0);
        run.remove("z");
        Kit.due("no z again", run.relation(1, 0), -1);
        run.with("m.rels", to("a"));
        Kit.due("one", run.relations(1), 1);
        Kit.dueThrow("no second one", Kit.INDEX, () -> run.relation(1, 1));
        run.remove("m");
        Kit.due("m.rels tells no part's", run.relations(1), 0);
        Kit.dueThrow("no first one", Kit.INDEX, () -> run.relation(1, 0));
    }

    private static void markupsInTurn() {
        Both run = row("markups in turn");
        run.with("root", "").with("a", "");
        String[] markups = {
            "<rels/>", to("a"), "<rels>", to("a", "a", "a"), "<rels><rel id='0' to='a'/><rel id='0' to='b'/></rels>",
            "<rels><rel id='0' to='a'/><rel id='1' to='b'/></rels", "", to("a", "root"), "<!---->", "<rels><rel to='a'/></rels>"
        };
        int[] many = {0, 1, -1, 3, 2, -1, -1, 2, -1, -1};
        String[] faults = {"4.0.0", "", "1.1.6 4.0.0", "", "2.1.1 3.1.1", "1.1.52 4.0.0", "1.1.0 4.0.0", "", "1.1.7 4.0.0",
            "1.1.17 4.0.0"};
        for (int k = 0; k < markups.length; k++) {
            run.with("root.rels", markups[k]);
            Kit.due("relations by " + markups[k], run.relations(1), many[k]);
            Kit.due("faults of " + markups[k], run.checked(), faults[k]);
            Kit.due("relations again", run.relations(1), many[k]);
        }
    }

    private static void pressedAndExpandedInTurn() {
        Both run = row("pressed and expanded in turn");
        for (String text : new String[] {"abcabcabcabc", "", "x", "\u0000\u00ff\u0000\u00ff\u0000\u00ff"}) {
            run.tape(text).press();
            byte[] pressed = Kit.bytes(run.out());
            Kit.due("expanded", run.tape(pressed).expand(), text.length());
            Kit.due("as it was", run.out(), text);
            Kit.due("a byte too many", run.tape(pressed, new byte[1]).expand(), -8);
            Kit.due("what came out before", run.out(), text);
            run.with("p", Kit.filled("written ", 60)).write();
            run.reread(0, 0);
            Kit.due("writing and reading are for themselves", run.out(), text);
        }
    }

    private static void tapeOverCallsThatDoNotTakeIt() {
        Both run = row("the tape over calls that do not take it");
        run.with("root", "").with("root.rels", to("x")).write();
        run.tape("tape/");
        run.write();
        run.check();
        run.reread(0, 0);
        run.reread(0, 1);
        run.about(0, 0);
        run.byteOf(0, 0);
        run.file(0);
        run.fault(0, 0);
        run.relations(0);
        run.relation(0, 0);
        Kit.dueThrow("out", Kit.INDEX, () -> run.out(0));
        Kit.dueThrow("type", Kit.ARGUMENT, () -> run.type(0, 0));
        Kit.dueThrow("again", Kit.ARGUMENT, () -> run.again(6));
        Kit.due("five bytes, and one", run.type('x', 1), 6);
        Kit.due("added", run.add(6), 3);
        due("its name", run, "root root.rels tape/x", 33);
    }

    private static void tapeBehindCallsThatTakeIt() {
        Both run = row("the tape behind calls that take it");
        run.tape("A");
        Kit.dueThrow("no name", Kit.ARGUMENT, () -> run.add(1));
        Kit.due("taken by add that throws", run.again(0), 0);
        Kit.due("one", run.tape("a").add(1), 1);
        Kit.due("taken by add", run.type('b', 1), 1);
        Kit.due("no such part", run.remove(), false);
        Kit.due("taken by remove", run.type('a', 1), 1);
        Kit.due("no file", run.read(), 1);
        Kit.due("taken by read", run.type('b', 1), 1);
        Kit.due("pressed", run.press(), 3);
        Kit.due("taken by press", run.type(3, 2), 2);
        Kit.due("expanded", run.expand(), 0);
        Kit.due("taken by expand", run.type('c', 1), 1);
        Kit.due("sum", run.sum(), 0x06B9DF6F);
        Kit.due("taken by sum", run.again(0), 0);
        run.tape(Kit.filled("ab", 4001));
        Kit.dueThrow("too many to press", Kit.UNSUPPORTED, () -> run.press());
        Kit.due("taken by press that throws", run.tape("a").remove(), true);
        Kit.due("a was there all the time", run.about(0, 0), 0);
    }

    /** What one object was told is nothing to another one. */
    private static void theSameRowOnTwoObjects() {
        Both one = row("one");
        Both other = row("other");
        for (int k = 0; k < 6; k++) {
            one.with("a" + k, "one's").write();
            other.with("b", "other's").write();
            one.tape("left");
            Kit.due("the other one's tape", other.again(0), 0);
            Kit.due("reread", other.reread(0, 0), 0);
            one.sum();
        }
        due("one", one, "a0 a1 a2 a3 a4 a5", 30);
        due("other", other, "b", 7);
    }
}
