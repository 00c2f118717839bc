import java.util.zip.CRC32;

/** An object whose calls are counted: nothing is promised behind the 512th, so no test of an edge may need more. */
final class Run {
    private static final int MOST_CALLS = 512;

    private final PackageBook book = new PackageBook();
    private int calls;

    private PackageBook next() {
        calls++;
        Kit.due("a run has more than 512 calls", calls == MOST_CALLS + 1, false);
        return book;
    }

    int type(long w, int n) {
        return next().type(w, n);
    }

    int again(int n) {
        return next().again(n);
    }

    int add(int n) {
        return next().add(n);
    }

    boolean remove() {
        return next().remove();
    }

    int about(int what, int i) {
        return next().about(what, i);
    }

    int byteOf(int i, int k) {
        return next().byteOf(i, k);
    }

    int write() {
        return next().write();
    }

    int file(int i) {
        return next().file(i);
    }

    int read() {
        return next().read();
    }

    int reread(int at, int x) {
        return next().reread(at, x);
    }

    int press() {
        return next().press();
    }

    int expand() {
        return next().expand();
    }

    int sum() {
        return next().sum();
    }

    int out(int i) {
        return next().out(i);
    }

    int check() {
        return next().check();
    }

    int fault(int k, int what) {
        return next().fault(k, what);
    }

    int relations(int i) {
        return next().relations(i);
    }

    int relation(int i, int k) {
        return next().relation(i, k);
    }

    /** The rows come on the tape, which is empty before: what repeats itself by again, so that few calls are needed. */
    Run tape(byte[]... rows) {
        byte[] row = Kit.join(rows);
        int at = 0;
        while (at < row.length) {
            int more = repeated(row, at);
            if (more > 8) {
                again(more);
                at += more;
            } else {
                int n = Math.min(8, row.length - at);
                type(word(row, at, n), n);
                at += n;
            }
        }
        return this;
    }

    Run tape(String text) {
        return tape(Kit.bytes(text));
    }

    private static int repeated(byte[] row, int at) {
        for (int n = Math.min(at, row.length - at); n > 8; n--) {
            if (java.util.Arrays.equals(row, at - n, at, row, at, at + n)) {
                return n;
            }
        }
        return 0;
    }

    private static long word(byte[] row, int from, int n) {
        long w = 0;
        for (int k = 0; k < n; k++) {
            w |= (long) (row[from + k] & 255) << (8 * k);
        }
        return w;
    }

    int add(String name, byte[] content) {
        return tape(Kit.bytes(name), content).add(name.length());
    }

    int add(String name, String content) {
        return add(name, Kit.bytes(content));
    }

    /** With a part each, so that it can be gone on with. */
    Run with(String name, String content) {
        add(name, content);
        return this;
    }

    Run with(String name, byte[] content) {
        add(name, content);
        return this;
    }

    boolean remove(String name) {
        return tape(name).remove();
    }

    String name(int i) {
        StringBuilder text = new StringBuilder();
        int n = about(1, i);
        for (int k = 0; k < n; k++) {
            text.append((char) byteOf(i, k));
        }
        return text.toString();
    }

    String content(int i) {
        StringBuilder text = new StringBuilder();
        int from = about(1, i);
        int n = about(2, i);
        for (int k = 0; k < n; k++) {
            text.append((char) byteOf(i, from + k));
        }
        return text.toString();
    }

    /** All names, with a blank between them. */
    String names() {
        StringBuilder text = new StringBuilder();
        int n = about(0, 0);
        for (int i = 0; i < n; i++) {
            text.append(i == 0 ? "" : " ").append(name(i));
        }
        return text.toString();
    }

    String out() {
        return asked(this::out);
    }

    String file() {
        return asked(this::file);
    }

    interface Ask {
        int at(int i);
    }

    private static String asked(Ask ask) {
        StringBuilder text = new StringBuilder();
        try {
            for (int k = 0; k < 20000; k++) {
                text.append((char) ask.at(k));
            }
        } catch (IndexOutOfBoundsException e) {
            return text.toString();
        }
        return text.append("and so on").toString();
    }

    /** Each fault of the latest check: its kind, its part, its number. */
    String faults() {
        StringBuilder text = new StringBuilder();
        try {
            for (int k = 0; k < 2000; k++) {
                text.append(k == 0 ? "" : " ").append(fault(k, 0)).append('.').append(fault(k, 1)).append('.').append(fault(k, 2));
            }
        } catch (IndexOutOfBoundsException e) {
            return text.toString().trim();
        }
        return text.append("and so on").toString();
    }

    /** Checks, and answers what was found, which must be as many as the call says. */
    String checked() {
        int many = check();
        String found = faults();
        Kit.due("as many faults as check says", found.isEmpty() ? 0 : found.split(" ").length, many);
        return found;
    }

    /** The tape must have this row: then it is taken. */
    void dueTape(String what, byte[] row) {
        CRC32 crc = new CRC32();
        crc.update(row);
        Kit.due(what + ": the tape's size", again(0), row.length);
        Kit.due(what + ": the tape's sum", sum(), (int) crc.getValue());
    }

    void dueTaken(String what) {
        Kit.due(what + ": the tape is taken", again(0), 0);
    }

    /** All that can be asked but the tape. */
    String seen() {
        StringBuilder text = new StringBuilder();
        int n = about(0, 0);
        text.append(n).append(" parts, ").append(about(3, 0)).append(" bytes");
        for (int i = 0; i < n; i++) {
            text.append('\n').append(name(i)).append(": ").append(content(i));
            int many = relations(i);
            text.append(" (").append(many);
            for (int k = 0; k < many; k++) {
                text.append(" -> ").append(relation(i, k));
            }
            text.append(')');
        }
        return text.append("\nfile: ").append(file()).append("\nout: ").append(out()).append("\nfaults: ").append(faults()).toString();
    }
}
