import java.util.ArrayList;
import java.util.List;
import java.util.TreeMap;
import java.util.zip.CRC32;

/** READING once more, sentence by sentence of the document. */
final class FileOracle {
    private static final class Fault extends RuntimeException {
        private static final long serialVersionUID = 1;
        final int which;

        Fault(int which) {
            this.which = which;
        }
    }

    final TreeMap<String, byte[]> parts = new TreeMap<>();
    final int fault;
    private final byte[] row;

    FileOracle(byte[] row) {
        this.row = row;
        int which = 0;
        try {
            read();
        } catch (Fault e) {
            which = e.which;
        }
        fault = which;
    }

    private long number(long at, int n) {
        long value = 0;
        for (int k = n - 1; k >= 0; k--) {
            value = value * 256 + (row[(int) at + k] & 255);
        }
        return value;
    }

    private static void need(boolean holds, int which) {
        if (!holds) {
            throw new Fault(which);
        }
    }

    private void read() {
        int end = row.length - 22;
        need(end >= 0, 1);
        need(number(end, 4) == 0x06054B50, 1);
        need(number(end + 4, 2) == 0 && number(end + 6, 2) == 0 && number(end + 20, 2) == 0, 1);
        need(number(end + 8, 2) == number(end + 10, 2), 1);
        long many = number(end + 8, 2);
        long begin = number(end + 16, 4);
        need(begin + number(end + 12, 4) == end, 2);
        List<Long> entries = new ArrayList<>();
        long at = begin;
        for (int k = 0; k < many; k++) {
            need(at + 46 <= end, 2);
            need(number(at, 4) == 0x02014B50 && number(at + 4, 2) == 20 && number(at + 6, 2) == 20, 2);
            need(number(at + 8, 2) == 0, 2);
            need(number(at + 10, 2) == 0 || number(at + 10, 2) == 8, 2);
            for (int zero = 30; zero < 42; zero++) {
                need(row[(int) at + zero] == 0, 2);
            }
            entries.add(at);
            at += 46 + number(at + 28, 2);
        }
        need(at == end, 2);
        for (long entry : entries) {
            one(entry, begin);
        }
    }

    private void one(long entry, long limit) {
        long record = number(entry + 42, 4);
        need(record + 30 <= limit, 3);
        need(number(record, 4) == 0x04034B50 && number(record + 4, 2) == 20 && number(record + 6, 2) == 0, 3);
        need(number(record + 8, 2) == number(entry + 10, 2), 3);
        need(number(record + 10, 2) == number(entry + 12, 2) && number(record + 12, 2) == number(entry + 14, 2), 3);
        for (int k = 0; k < 3; k++) {
            need(number(record + 14 + 4 * k, 4) == number(entry + 16 + 4 * k, 4), 3);
        }
        long nameSize = number(entry + 28, 2);
        need(number(record + 26, 2) == nameSize && number(record + 28, 2) == 0, 3);
        long size = number(entry + 20, 4);
        need(record + 30 + nameSize + size <= limit, 3);
        StringBuilder name = new StringBuilder();
        for (int k = 0; k < nameSize; k++) {
            need(row[(int) record + 30 + k] == row[(int) entry + 46 + k], 3);
            name.append((char) (row[(int) entry + 46 + k] & 255));
        }
        need(isName(name.toString()) && !parts.containsKey(name.toString()), 4);
        byte[] bytes = java.util.Arrays.copyOfRange(row, (int) (record + 30 + nameSize), (int) (record + 30 + nameSize + size));
        if (number(entry + 10, 2) == 8) {
            bytes = StreamOracle.expand(bytes, new int[1]);
            need(bytes != null, 5);
        }
        CRC32 crc = new CRC32();
        crc.update(bytes);
        need(bytes.length == number(entry + 24, 4) && crc.getValue() == number(entry + 16, 4), 5);
        int all = bytes.length;
        for (byte[] other : parts.values()) {
            all += other.length;
        }
        need(parts.size() < 16 && bytes.length <= 4000 && all <= 12000, 6);
        parts.put(name.toString(), bytes);
    }

    static boolean isName(String name) {
        boolean right = name.length() >= 1 && name.length() <= 24;
        for (String piece : name.split("/", -1)) {
            right &= piece.matches("[a-z0-9._]+") && !piece.equals(".") && !piece.equals("..");
        }
        return right;
    }
}
