import java.util.HashMap;
import java.util.HashSet;
import java.util.Map;
import java.util.Set;

/** A STREAM read once more, in the slowest and plainest way: codes are texts of digits, a fault is an exception. */
final class StreamOracle {
    private static final class Fault extends RuntimeException {
        private static final long serialVersionUID = 1;
        final int which;

        Fault(int which) {
            this.which = which;
        }
    }

    /** Symbols by their codes, and all rows of bits that a code begins with. */
    private static final class Code {
        final Map<String, Integer> symbols = new HashMap<>();
        final Set<String> beginnings = new HashSet<>();

        void put(String bits, int symbol) {
            symbols.put(bits, symbol);
            for (int n = 0; n <= bits.length(); n++) {
                beginnings.add(bits.substring(0, n));
            }
        }
    }

    private static final Code FIXED_FIRST = codeOf(fixedFirst());
    private static final Code FIXED_SECOND = codeOf(fixedSecond());

    private final StringBuilder bits = new StringBuilder();
    private final StringBuilder out = new StringBuilder();
    private int at = 0;

    private StreamOracle(byte[] row) {
        for (byte b : row) {
            for (int k = 0; k < 8; k++) {
                bits.append(b >> k & 1);
            }
        }
    }

    /** The bytes that come out, or null and the fault in fault[0]. */
    static byte[] expand(byte[] row, int[] fault) {
        StreamOracle oracle = new StreamOracle(row);
        try {
            oracle.blocks();
            fault[0] = 0;
            return Kit.bytes(oracle.out.toString());
        } catch (Fault e) {
            fault[0] = e.which;
            return null;
        }
    }

    private char bit() {
        if (at == bits.length()) {
            throw new Fault(1);
        }
        return bits.charAt(at++);
    }

    private int number(int n) {
        int value = 0;
        for (int k = 0; k < n; k++) {
            value += (bit() - '0') * (1 << k);
        }
        return value;
    }

    private void blocks() {
        boolean last;
        do {
            last = bit() == '1';
            int kind = number(2);
            switch (kind) {
                case 0: stored(); break;
                case 1: symbols(FIXED_FIRST, FIXED_SECOND); break;
                case 2: coded(); break;
                default: throw new Fault(2);
            }
        } while (!last);
        while (at % 8 != 0) {
            at++;
        }
        if (at < bits.length()) {
            throw new Fault(8);
        }
    }

    private void stored() {
        while (at % 8 != 0) {
            at++;
        }
        int size = number(16);
        int other = number(16);
        if (size + other != 65535) {
            throw new Fault(3);
        }
        for (int k = 0; k < size; k++) {
            put(number(8));
        }
    }

    private void put(int b) {
        if (out.length() >= 4000) {
            throw new Fault(7);
        }
        out.append((char) b);
    }

    private static int[] fixedFirst() {
        int[] told = new int[288];
        for (int s = 0; s < 288; s++) {
            told[s] = s <= 143 ? 8 : s <= 255 ? 9 : s <= 279 ? 7 : 8;
        }
        return told;
    }

    private static int[] fixedSecond() {
        int[] told = new int[32];
        java.util.Arrays.fill(told, 5);
        return told;
    }

    private static Code codeOf(int[] told) {
        Code code = new Code();
        long next = 0;
        int had = 0;
        for (int n = 1; n <= 15; n++) {
            for (int s = 0; s < told.length; s++) {
                if (told[s] == n) {
                    next = (had == 0 ? 0 : next + 1) << (had == 0 ? 0 : n - had);
                    had = n;
                    StringBuilder text = new StringBuilder();
                    for (int k = n - 1; k >= 0; k--) {
                        text.append(next >> k & 1);
                    }
                    code.put(text.toString(), s);
                }
            }
        }
        return code;
    }

    private static boolean right(int[] told) {
        double part = 0;
        int many = 0;
        int ones = 0;
        for (int n : told) {
            if (n > 0) {
                part += Math.pow(2, -n);
                many++;
                ones += n == 1 ? 1 : 0;
            }
        }
        return part == 1 || many == 1 && ones == 1;
    }

    private int symbol(Code code) {
        String read = "";
        while (code.beginnings.contains(read)) {
            if (code.symbols.containsKey(read)) {
                return code.symbols.get(read);
            }
            read += bit();
        }
        throw new Fault(5);
    }

    private void coded() {
        int a = number(5) + 257;
        int b = number(5) + 1;
        int c = number(4) + 4;
        if (a > 286 || b > 30) {
            throw new Fault(4);
        }
        int[] order = {16, 17, 18, 0, 8, 7, 9, 6, 10, 5, 11, 4, 12, 3, 13, 2, 14, 1, 15};
        int[] third = new int[19];
        for (int k = 0; k < c; k++) {
            third[order[k]] = number(3);
        }
        if (!right(third)) {
            throw new Fault(4);
        }
        java.util.List<Integer> told = new java.util.ArrayList<>();
        Code code = codeOf(third);
        while (told.size() < a + b) {
            int s = symbol(code);
            if (s == 16 && told.isEmpty()) {
                throw new Fault(4);
            }
            int value = s < 16 ? s : s == 16 ? told.get(told.size() - 1) : 0;
            int times = s < 16 ? 1 : s == 16 ? 3 + number(2) : s == 17 ? 3 + number(3) : 11 + number(7);
            for (int k = 0; k < times; k++) {
                told.add(value);
            }
            if (told.size() > a + b) {
                throw new Fault(4);
            }
        }
        int[] first = new int[a];
        int[] second = new int[b];
        int some = 0;
        for (int k = 0; k < a + b; k++) {
            if (k < a) {
                first[k] = told.get(k);
            } else {
                second[k - a] = told.get(k);
                some += told.get(k);
            }
        }
        if (!right(first) || first[256] == 0 || some > 0 && !right(second)) {
            throw new Fault(4);
        }
        symbols(codeOf(first), codeOf(second));
    }

    private void symbols(Code first, Code second) {
        int s = symbol(first);
        while (s != 256) {
            if (s < 256) {
                put(s);
            } else if (s > 285) {
                throw new Fault(5);
            } else {
                copy(s - 257, second);
            }
            s = symbol(first);
        }
    }

    private void copy(int k, Code second) {
        int length;
        if (k < 8) {
            length = 3 + k;
        } else if (k == 28) {
            length = 258;
        } else {
            int e = k / 4 - 1;
            length = 3 + (4 + k % 4) * (1 << e) + number(e);
        }
        int d = symbol(second);
        if (d >= 30) {
            throw new Fault(5);
        }
        int distance = 1 + d;
        if (d >= 4) {
            int e = d / 2 - 1;
            distance = 1 + (2 + d % 2) * (1 << e) + number(e);
        }
        if (distance > out.length()) {
            throw new Fault(6);
        }
        if (out.length() + length > 4000) {
            throw new Fault(7);
        }
        for (int n = 0; n < length; n++) {
            out.append(out.charAt(out.length() - distance));
        }
    }
}
