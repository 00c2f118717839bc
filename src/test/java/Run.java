import java.util.zip.CRC32;

/** An object whose calls are counted: nothing is promised behind the 512th, so no test may need more. */
class Run implements Face {
    private static final int MOST_CALLS = 512;
    private static final int MUCH = 64;

    private Face face = new Real();
    private int calls;

    interface Call {
        int on(Face face);
    }

    int left() {
        return MOST_CALLS - calls;
    }

    /** In the object's place comes one that no call was made of yet. */
    final void renew() {
        face = new Real();
        calls = 0;
    }

    /** A call that may change something. */
    int does(Call call, String name, long... arguments) {
        return asks(call, name, arguments);
    }

    /** A call that changes nothing. */
    int asks(Call call, String name, long... arguments) {
        Kit.due("a run has more than 512 calls", left() == 0, false);
        calls++;
        return call.on(face);
    }

    @Override
    public final int type(long w, int n) {
        return does(f -> f.type(w, n), "type", w, n);
    }

    @Override
    public final int again(int n) {
        return does(f -> f.again(n), "again", n);
    }

    @Override
    public final int add(int n) {
        return does(f -> f.add(n), "add", n);
    }

    @Override
    public final boolean remove() {
        return does(f -> f.remove() ? 1 : 0, "remove") == 1;
    }

    @Override
    public final int about(int what, int i) {
        return asks(f -> f.about(what, i), "about", what, i);
    }

    @Override
    public final int byteOf(int i, int k) {
        return asks(f -> f.byteOf(i, k), "byteOf", i, k);
    }

    @Override
    public final int write() {
        return does(f -> f.write(), "write");
    }

    @Override
    public final int file(int i) {
        return asks(f -> f.file(i), "file", i);
    }

    @Override
    public final int read() {
        return does(f -> f.read(), "read");
    }

    @Override
    public final int reread(int at, int x) {
        return does(f -> f.reread(at, x), "reread", at, x);
    }

    @Override
    public final int press() {
        return does(f -> f.press(), "press");
    }

    @Override
    public final int expand() {
        return does(f -> f.expand(), "expand");
    }

    @Override
    public final int sum() {
        return does(f -> f.sum(), "sum");
    }

    @Override
    public final int out(int i) {
        return asks(f -> f.out(i), "out", i);
    }

    @Override
    public final int check() {
        return does(f -> f.check(), "check");
    }

    @Override
    public final int fault(int k, int what) {
        return asks(f -> f.fault(k, what), "fault", k, what);
    }

    @Override
    public final int relations(int i) {
        return asks(f -> f.relations(i), "relations", i);
    }

    @Override
    public final int relation(int i, int k) {
        return asks(f -> f.relation(i, k), "relation", i, k);
    }

    /** The rows come on the tape, which is empty before: what repeats itself by again, so that few calls are needed. */
    Run tape(byte[]... rows) {
        byte[] row = Kit.join(rows);
        int at = 0;
        while (at < row.length) {
            int more = repeated(row, at);
            if (more > 8) {
                again(more);
                at += more;
            } else {
                int n = typed(row, at);
                type(word(row, at, n), n);
                at += n;
            }
        }
        return this;
    }

    Run tape(String text) {
        return tape(Kit.bytes(text));
    }

    /** As many as one call can type, but not beyond a place where much repeats itself. */
    private static int typed(byte[] row, int at) {
        int n = 1;
        while (n < 8 && at + n < row.length && repeated(row, at + n) < MUCH) {
            n++;
        }
        return n;
    }

    private static int repeated(byte[] row, int at) {
        for (int n = Math.min(at, row.length - at); n > 8; n--) {
            if (java.util.Arrays.equals(row, at - n, at, row, at, at + n)) {
                return n;
            }
        }
        return 0;
    }

    private static long word(byte[] row, int from, int n) {
        long w = 0;
        for (int k = 0; k < n; k++) {
            w |= (long) (row[from + k] & 255) << (8 * k);
        }
        return w;
    }

    int add(String name, byte[] content) {
        return tape(Kit.bytes(name), content).add(name.length());
    }

    int add(String name, String content) {
        return add(name, Kit.bytes(content));
    }

    /** With a part each, so that it can be gone on with. */
    Run with(String name, String content) {
        add(name, content);
        return this;
    }

    Run with(String name, byte[] content) {
        add(name, content);
        return this;
    }

    boolean remove(String name) {
        return tape(name).remove();
    }

    String name(int i) {
        StringBuilder text = new StringBuilder();
        int n = about(1, i);
        for (int k = 0; k < n; k++) {
            text.append((char) byteOf(i, k));
        }
        return text.toString();
    }

    String content(int i) {
        StringBuilder text = new StringBuilder();
        int from = about(1, i);
        int n = about(2, i);
        for (int k = 0; k < n; k++) {
            text.append((char) byteOf(i, from + k));
        }
        return text.toString();
    }

    /** All names, with a blank between them. */
    String names() {
        StringBuilder text = new StringBuilder();
        int n = about(0, 0);
        for (int i = 0; i < n; i++) {
            text.append(i == 0 ? "" : " ").append(name(i));
        }
        return text.toString();
    }

    String out() {
        return asked(this::out);
    }

    String file() {
        return asked(this::file);
    }

    interface Ask {
        int at(int i);
    }

    private static String asked(Ask ask) {
        StringBuilder text = new StringBuilder();
        try {
            for (int k = 0; k < 20000; k++) {
                text.append((char) ask.at(k));
            }
        } catch (IndexOutOfBoundsException e) {
            return text.toString();
        }
        return text.append("and so on").toString();
    }

    /** Each fault of the latest check: its kind, its part, its number. */
    String faults() {
        StringBuilder text = new StringBuilder();
        try {
            for (int k = 0; k < 2000; k++) {
                text.append(k == 0 ? "" : " ").append(fault(k, 0)).append('.').append(fault(k, 1)).append('.').append(fault(k, 2));
            }
        } catch (IndexOutOfBoundsException e) {
            return text.toString().trim();
        }
        return text.append("and so on").toString();
    }

    /** Checks, and answers what was found, which must be as many as the call says. */
    String checked() {
        int many = check();
        String found = faults();
        Kit.due("as many faults as check says", found.isEmpty() ? 0 : found.split(" ").length, many);
        return found;
    }

    /** The tape must have this row: then it is taken. */
    void dueTape(String what, byte[] row) {
        CRC32 crc = new CRC32();
        crc.update(row);
        Kit.due(what + ": the tape's size", again(0), row.length);
        Kit.due(what + ": the tape's sum", sum(), (int) crc.getValue());
    }

    void dueTaken(String what) {
        Kit.due(what + ": the tape is taken", again(0), 0);
    }

    /** All that can be asked but the tape. */
    String seen() {
        StringBuilder text = new StringBuilder();
        int n = about(0, 0);
        text.append(n).append(" parts, ").append(about(3, 0)).append(" bytes");
        for (int i = 0; i < n; i++) {
            text.append('\n').append(name(i)).append(": ").append(content(i));
            int many = relations(i);
            text.append(" (").append(many);
            for (int k = 0; k < many; k++) {
                text.append(" -> ").append(relation(i, k));
            }
            text.append(')');
        }
        return text.append("\nfile: ").append(file()).append("\nout: ").append(out()).append("\nfaults: ").append(faults()).toString();
    }
}
