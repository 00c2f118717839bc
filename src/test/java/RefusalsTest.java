/**
 * "A call that throws changes nothing (but for the tape); where several exceptions that a call names fit, it is the one that
 * it names first", and what a call that is not refused leaves as it was: a test of its own for each call.
 */
public final class RefusalsTest {
    private static final String TOLD = "<rels><rel id='x' to='z'/><rel id='y' to='root'/></rels>";
    private static final int[] FAR = {Integer.MIN_VALUE, -1, 9000, Integer.MAX_VALUE};

    public static void main(String[] args) {
        type();
        typeOnAFullTape();
        again();
        againOnAFullTape();
        addOfNoName();
        addOfTooManyBytes();
        addOfTooManyParts();
        addOfTooManyInAll();
        removeOfNone();
        about();
        byteOf();
        file();
        readOfEachFault();
        rereadThatThrows();
        rereadOfEachFault();
        press();
        expandOfEachFault();
        out();
        fault();
        relations();
        relation();
        whatAddChanges();
        whatRemoveChanges();
        whatReadChanges();
        whatRereadChanges();
        whatPressAndExpandChange();
        whatSumChanges();
        Kit.end();
    }

    private interface Call {
        int on(Run run);
    }

    /** With parts, a file of others, something that came out, and two faults found. */
    private static Run furnished() {
        Run run = new Run().with("f", "1");
        run.write();
        run.remove("f");
        run.with("b", "22").with("root", "").with("root.rels", TOLD).tape("out").press();
        Kit.due("two faults", run.check(), 2);
        return run;
    }

    private static final String SEEN = furnished().seen();

    /** The call throws this, and leaves all as it was; the tape is taken or has what it had. */
    private static void dueRefused(String what, byte[] tape, boolean isTaken, Class<?> thrown, Call call) {
        Run run = furnished().tape(tape);
        Kit.dueThrow(what, thrown, () -> call.on(run));
        dueLeft(what, run, tape, isTaken);
    }

    /** The call answers this, and leaves all as it was. */
    private static void dueAnswer(String what, byte[] tape, boolean isTaken, int want, Call call) {
        Run run = furnished().tape(tape);
        Kit.due(what, call.on(run), want);
        dueLeft(what, run, tape, isTaken);
    }

    private static void dueLeft(String what, Run run, byte[] tape, boolean isTaken) {
        run.dueTape(what, isTaken ? new byte[0] : tape);
        Kit.due(what + " changes nothing", run.seen(), SEEN);
        dueGoesOn(what, run);
    }

    /** What was refused is not remembered: each call answers as it would without it. */
    private static void dueGoesOn(String what, Run run) {
        Kit.due(what + ", then type", run.type(0x6968FFFD000201L, 7), 7);
        Kit.due(what + ", then expand", run.expand(), 2);
        Kit.due(what + ", then out", run.out(), "hi");
        Kit.due(what + ", then press", run.tape("aaaa").press(), 4);
        Kit.due(what + ", then sum", run.tape("123456789").sum(), 0xCBF43926);
        Kit.due(what + ", then add", run.add("c", "3"), 4);
        Kit.due(what + ", then relations", run.relations(2), 2);
        Kit.due(what + ", then check", run.checked(), "3.2.0 4.0.0 4.1.0");
        Kit.due(what + ", then reread", run.reread(0, 0), 0);
        Kit.due(what + ", then read", run.tape(new Zip().fewest("n", Kit.filled("n", 20)).done()).read(), 0);
        Kit.due(what + ", then write", run.write(), 31 + 4 + 47 + 22);
        Kit.due(what + ", then remove", run.remove("n"), true);
    }

    private static byte[] tape(String text) {
        return Kit.bytes(text);
    }

    private static void type() {
        for (int n : new int[] {0, 9, -1, Integer.MIN_VALUE, Integer.MAX_VALUE}) {
            dueRefused("type " + n, tape("abc"), false, Kit.ARGUMENT, run -> run.type(-1, n));
        }
    }

    private static void typeOnAFullTape() {
        dueRefused("8001", Kit.filled("ab", 8000), false, Kit.UNSUPPORTED, run -> run.type(-1, 1));
        dueRefused("8001 by 8", Kit.filled("ab", 7993), false, Kit.UNSUPPORTED, run -> run.type(-1, 8));
        dueRefused("n 9", Kit.filled("ab", 8000), false, Kit.ARGUMENT, run -> run.type(-1, 9));
    }

    private static void again() {
        for (int n : new int[] {4, -1, Integer.MIN_VALUE, Integer.MAX_VALUE}) {
            dueRefused("again " + n, tape("abc"), false, Kit.ARGUMENT, run -> run.again(n));
        }
    }

    private static void againOnAFullTape() {
        dueRefused("8001", Kit.filled("ab", 4001), false, Kit.UNSUPPORTED, run -> run.again(4000));
        dueRefused("8001 of 8000", Kit.filled("ab", 8000), false, Kit.ARGUMENT, run -> run.again(8001));
        dueRefused("8000 more", Kit.filled("ab", 8000), false, Kit.UNSUPPORTED, run -> run.again(8000));
    }

    private static void addOfNoName() {
        for (int n : new int[] {0, 5, -1, Integer.MIN_VALUE, Integer.MAX_VALUE}) {
            dueRefused("add " + n, tape("root"), true, Kit.ARGUMENT, run -> run.add(n));
        }
        dueRefused("add of nothing", tape(""), true, Kit.ARGUMENT, run -> run.add(0));
        dueRefused("add of 1 of nothing", tape(""), true, Kit.ARGUMENT, run -> run.add(1));
        dueRefused("add of a capital", tape("Root"), true, Kit.ARGUMENT, run -> run.add(4));
        dueRefused("add of a slash", tape("b/"), true, Kit.ARGUMENT, run -> run.add(2));
        dueRefused("add of 25", Kit.filled("b", 25), true, Kit.ARGUMENT, run -> run.add(25));
        dueRefused("add of no name and too many", Kit.filled("B", 8000), true, Kit.ARGUMENT, run -> run.add(1));
    }

    private static void addOfTooManyBytes() {
        dueRefused("4001 of a new one", Kit.filled("a", 4002), true, Kit.UNSUPPORTED, run -> run.add(1));
        dueRefused("4001 of an old one", Kit.filled("b", 4002), true, Kit.UNSUPPORTED, run -> run.add(1));
        dueRefused("7999 of an old one", Kit.filled("b", 8000), true, Kit.UNSUPPORTED, run -> run.add(1));
    }

    private static Run full(int parts, int bytes) {
        Run run = new Run().with("f", "1");
        run.write();
        run.remove("f");
        int left = bytes;
        for (int k = 0; k < parts; k++) {
            int n = Math.min(left, 4000);
            run.add("p" + (char) ('a' + k), Kit.filled("x", n));
            left -= n;
        }
        run.tape("out").press();
        run.check();
        return run;
    }

    private static String brief(Run run) {
        StringBuilder text = new StringBuilder(run.names()).append(' ').append(run.about(3, 0));
        int n = run.about(0, 0);
        for (int i = 0; i < n; i++) {
            text.append(' ').append(run.about(2, i));
        }
        return text.append(run.file()).append(run.out()).append(run.faults()).toString();
    }

    private static void dueFull(String what, int parts, int bytes, String name, int size) {
        Run run = full(parts, bytes).tape(Kit.bytes(name), Kit.filled("y", size));
        Kit.dueThrow(what, Kit.UNSUPPORTED, () -> run.add(name.length()));
        run.dueTaken(what);
        Kit.due(what + " changes nothing", brief(run), brief(full(parts, bytes)));
    }

    private static void addOfTooManyParts() {
        dueFull("the 17th", 16, 16, "q", 0);
        dueFull("the 17th, before the others", 16, 16, "a", 1);
        dueFull("the 17th, too many bytes, too", 16, 16, "q", 4001);
    }

    private static void addOfTooManyInAll() {
        dueFull("12001", 3, 12000, "q", 1);
        dueFull("12001 by an old one", 4, 11999, "pd", 2);
        dueFull("4001 by an old one", 3, 12000, "pa", 4001);
        dueFull("16000", 3, 12000, "q", 4000);
    }

    private static void removeOfNone() {
        for (String name : new String[] {"", "a", "B", "b/", "roo", "root.rels.rels", "rootx", "bbbbbbbbbbbbbbbbbbbbbbbbb"}) {
            dueAnswer("remove " + name, tape(name), true, 0, run -> run.remove() ? 1 : 0);
        }
    }

    private static void about() {
        dueRefused("about -1", tape("abc"), false, Kit.INDEX, run -> run.about(-1, 0));
        dueRefused("about 4", tape("abc"), false, Kit.INDEX, run -> run.about(4, 0));
        dueRefused("about 1 of 3", tape("abc"), false, Kit.INDEX, run -> run.about(1, 3));
        dueRefused("about 2 of -1", tape("abc"), false, Kit.INDEX, run -> run.about(2, -1));
        dueAnswer("about 3", tape("abc"), false, 2 + TOLD.length(), run -> run.about(3, 9));
    }

    private static void byteOf() {
        for (int far : FAR) {
            dueRefused("byteOf part " + far, tape("abc"), false, Kit.INDEX, run -> run.byteOf(far, 0));
            dueRefused("byteOf byte " + far, tape("abc"), false, Kit.INDEX, run -> run.byteOf(0, far));
        }
        dueAnswer("byteOf", tape("abc"), false, '2', run -> run.byteOf(0, 2));
    }

    private static void file() {
        for (int far : FAR) {
            dueRefused("file " + far, tape("abc"), false, Kit.INDEX, run -> run.file(far));
        }
        dueAnswer("file", tape("abc"), false, 0x50, run -> run.file(0));
    }

    private static byte[] faulty(int fault) {
        Zip zip = new Zip().part("b", "new").part("root", "new");
        Zip.Part second = zip.parts.get(1);
        switch (fault) {
            case 1: return Kit.join(zip.done(), new byte[1]);
            case 2: return Kit.join(new byte[1], zip.done());
            case 3: second.record = 1; break;
            case 4: second.name = tape("b"); break;
            case 5: second.sum++; break;
            default: zip.part(new Zip.Part("c", Kit.filled("x", 4001)));
        }
        return zip.done();
    }

    // "or the fault (nothing is changed)"
    private static void readOfEachFault() {
        for (int fault = 1; fault <= 6; fault++) {
            dueAnswer("fault " + fault, faulty(fault), true, fault, Run::read);
        }
    }

    private static void rereadThatThrows() {
        for (int far : FAR) {
            dueRefused("at " + far, tape("abc"), false, Kit.INDEX, run -> run.reread(far, 0));
            dueRefused("x " + far, tape("abc"), false, Kit.ARGUMENT, run -> run.reread(0, far));
            dueRefused("at and x " + far, tape("abc"), false, Kit.INDEX, run -> run.reread(far, far));
        }
    }

    private static void rereadOfEachFault() {
        // The file of the part f with one byte: the record has 32 bytes, the entry 47.
        dueAnswer("fault 1", tape("abc"), false, 1, run -> run.reread(79, 1));
        dueAnswer("fault 2", tape("abc"), false, 2, run -> run.reread(32, 1));
        dueAnswer("fault 3", tape("abc"), false, 3, run -> run.reread(0, 1));
        dueAnswer("fault 3 by the name", tape("abc"), false, 3, run -> run.reread(30, 1));
        dueAnswer("fault 5", tape("abc"), false, 5, run -> run.reread(31, 1));
    }

    private static void press() {
        dueRefused("4001", Kit.filled("ab", 4001), true, Kit.UNSUPPORTED, Run::press);
        dueRefused("8000", Kit.filled("ab", 8000), true, Kit.UNSUPPORTED, Run::press);
    }

    private static void expandOfEachFault() {
        byte[][] streams = {
            {}, {7}, {1, 0, 0, 0, 0}, new Bits().block(1, 2).number(31, 14).done(), new Bits().block(1, 1).fixed('a').fixed(286).done(),
            new Bits().block(1, 1).fixed('a').fixed(257).distance(1).done(), new Bits().block(1, 1).fixed('a').more(4002).done(), {3, 0, 0}
        };
        for (int k = 0; k < streams.length; k++) {
            dueAnswer("fault " + (1 + k), streams[k], true, -1 - k, Run::expand);
        }
    }

    private static void out() {
        for (int far : FAR) {
            dueRefused("out " + far, tape("abc"), false, Kit.INDEX, run -> run.out(far));
        }
    }

    private static void fault() {
        for (int far : FAR) {
            dueRefused("fault " + far, tape("abc"), false, Kit.INDEX, run -> run.fault(far, 0));
            dueRefused("what " + far, tape("abc"), false, Kit.INDEX, run -> run.fault(0, far));
        }
        dueRefused("fault 2", tape("abc"), false, Kit.INDEX, run -> run.fault(2, 0));
        dueAnswer("fault 1", tape("abc"), false, 4, run -> run.fault(1, 0));
    }

    private static void relations() {
        for (int far : FAR) {
            dueRefused("relations of " + far, tape("abc"), false, Kit.INDEX, run -> run.relations(far));
        }
        dueAnswer("relations", tape("abc"), false, 2, run -> run.relations(1));
    }

    private static void relation() {
        for (int far : FAR) {
            dueRefused("relation of " + far, tape("abc"), false, Kit.INDEX, run -> run.relation(far, 0));
            dueRefused("relation " + far, tape("abc"), false, Kit.INDEX, run -> run.relation(1, far));
        }
        dueRefused("relation of none", tape("abc"), false, Kit.INDEX, run -> run.relation(0, 0));
        dueAnswer("relation", tape("abc"), false, -1, run -> run.relation(1, 0));
    }

    /** All but the parts. */
    private static String behind(String seen) {
        return seen.substring(seen.indexOf("\nfile: "));
    }

    /** The parts and the file. */
    private static String before(String seen) {
        return seen.substring(0, seen.indexOf("\nout: "));
    }

    private static void whatAddChanges() {
        Run run = furnished();
        Kit.due("add", run.add("c", "3"), 4);
        Kit.due("file, out and faults stay", behind(run.seen()), behind(SEEN));
    }

    private static void whatRemoveChanges() {
        Run run = furnished();
        Kit.due("remove", run.remove("b"), true);
        Kit.due("file, out and faults stay", behind(run.seen()), behind(SEEN));
    }

    private static void whatReadChanges() {
        Run run = furnished().tape(new Zip().fewest("n", Kit.filled("n", 20)).done());
        Kit.due("read", run.read(), 0);
        Kit.due("its parts", run.names(), "n");
        Kit.due("file, out and faults stay", behind(run.seen()), behind(SEEN));
    }

    private static void whatRereadChanges() {
        Run run = furnished().tape("tape");
        Kit.due("reread", run.reread(100, 0), 0);
        Kit.due("its parts", run.names(), "f");
        run.dueTape("reread", tape("tape"));
        Kit.due("file, out and faults stay", behind(run.seen()), behind(SEEN));
    }

    private static void whatPressAndExpandChange() {
        Run run = furnished().tape("pressed");
        run.press();
        String seen = run.seen();
        Kit.due("parts and file stay", before(seen), before(SEEN));
        Kit.due("faults stay", run.faults(), "3.1.0 4.0.0");
        Run other = furnished().tape("\u0003\u0000");
        Kit.due("expand", other.expand(), 0);
        Kit.due("parts and file stay", before(other.seen()), before(SEEN));
        Kit.due("faults stay", other.faults(), "3.1.0 4.0.0");
    }

    private static void whatSumChanges() {
        Run run = furnished().tape("123456789");
        Kit.due("sum", run.sum(), 0xCBF43926);
        Kit.due("all stays", run.seen(), SEEN);
    }
}
