import java.util.ArrayList;
import java.util.Arrays;
import java.util.List;
import java.util.TreeMap;
import java.util.zip.CRC32;

/** The whole object once more, in its plainest form: the promises one by one, over the slow oracles. */
final class Model implements Face {
    private byte[] tape = new byte[0];
    private TreeMap<String, byte[]> parts = new TreeMap<>();
    private byte[] file = new byte[0];
    private byte[] came = new byte[0];
    private int[][] faults = new int[0][];

    byte[] file() {
        return file.clone();
    }

    byte[] came() {
        return came.clone();
    }

    List<String> names() {
        return new ArrayList<>(parts.keySet());
    }

    private byte[] take() {
        byte[] taken = tape;
        tape = new byte[0];
        return taken;
    }

    private static void argument(boolean holds) {
        if (!holds) {
            throw new IllegalArgumentException();
        }
    }

    private static void supported(boolean holds) {
        if (!holds) {
            throw new UnsupportedOperationException();
        }
    }

    private static void index(boolean holds) {
        if (!holds) {
            throw new IndexOutOfBoundsException();
        }
    }

    private static int byteAt(byte[] row, int i) {
        index(i >= 0 && i < row.length);
        return row[i] & 255;
    }

    private String name(int i) {
        index(i >= 0 && i < parts.size());
        return names().get(i);
    }

    private static int inAll(TreeMap<String, byte[]> parts) {
        return parts.values().stream().mapToInt(row -> row.length).sum();
    }

    @Override
    public int type(long w, int n) {
        argument(n >= 1 && n <= 8);
        supported(tape.length + n <= 8000);
        for (int k = 0; k < n; k++) {
            tape = Kit.join(tape, new byte[] {(byte) (w >> 8 * k)});
        }
        return tape.length;
    }

    @Override
    public int again(int n) {
        argument(n >= 0 && n <= tape.length);
        supported(tape.length + n <= 8000);
        tape = Kit.join(tape, Arrays.copyOfRange(tape, tape.length - n, tape.length));
        return tape.length;
    }

    @Override
    public int add(int n) {
        byte[] row = take();
        argument(n >= 0 && n <= row.length);
        String name = Kit.text(Arrays.copyOf(row, n));
        argument(FileOracle.isName(name));
        byte[] content = Arrays.copyOfRange(row, n, row.length);
        TreeMap<String, byte[]> all = new TreeMap<>(parts);
        all.put(name, content);
        supported(all.size() <= 16 && content.length <= 4000 && inAll(all) <= 12000);
        parts = all;
        return parts.size();
    }

    @Override
    public boolean remove() {
        return parts.remove(Kit.text(take())) != null;
    }

    @Override
    public int about(int what, int i) {
        switch (what) {
            case 0: return parts.size();
            case 1: return name(i).length();
            case 2: return parts.get(name(i)).length;
            case 3: return inAll(parts);
            default: throw new IndexOutOfBoundsException();
        }
    }

    @Override
    public int byteOf(int i, int k) {
        return byteAt(Kit.join(Kit.bytes(name(i)), parts.get(name(i))), k);
    }

    @Override
    public int write() {
        Zip zip = new Zip();
        parts.forEach(zip::fewest);
        file = zip.done();
        return file.length;
    }

    @Override
    public int file(int i) {
        return byteAt(file, i);
    }

    private int reading(byte[] row) {
        FileOracle oracle = new FileOracle(row);
        if (oracle.fault == 0) {
            parts = oracle.parts;
        }
        return oracle.fault;
    }

    @Override
    public int read() {
        return reading(take());
    }

    @Override
    public int reread(int at, int x) {
        index(at >= 0 && at < file.length);
        argument(x >= 0 && x <= 255);
        byte[] changed = file.clone();
        changed[at] ^= (byte) x;
        return reading(changed);
    }

    @Override
    public int press() {
        byte[] row = take();
        supported(row.length <= 4000);
        came = PressOracle.press(row);
        return came.length;
    }

    @Override
    public int expand() {
        int[] fault = new int[1];
        byte[] expanded = StreamOracle.expand(take(), fault);
        if (expanded == null) {
            return -fault[0];
        }
        came = expanded;
        return came.length;
    }

    @Override
    public int sum() {
        CRC32 crc = new CRC32();
        crc.update(take());
        return (int) crc.getValue();
    }

    @Override
    public int out(int i) {
        return byteAt(came, i);
    }

    @Override
    public int check() {
        faults = CheckOracle.faultsOf(parts);
        return faults.length;
    }

    @Override
    public int fault(int k, int what) {
        index(k >= 0 && k < faults.length && what >= 0 && what <= 2);
        return faults[k][what];
    }

    /** None, where no part tells them. */
    private MarkupOracle told(int i) {
        byte[] markup = parts.get(name(i) + ".rels");
        return new MarkupOracle(markup == null ? Kit.bytes("<rels/>") : markup);
    }

    @Override
    public int relations(int i) {
        MarkupOracle told = told(i);
        return told.fault >= 0 ? -1 : told.ids.size();
    }

    @Override
    public int relation(int i, int k) {
        MarkupOracle told = told(i);
        index(k >= 0 && k < told.tos.size());
        return names().indexOf(told.tos.get(k));
    }
}
