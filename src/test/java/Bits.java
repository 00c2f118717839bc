import java.io.ByteArrayOutputStream;

/** Makes streams bit by bit. */
final class Bits {
    private final ByteArrayOutputStream bytes = new ByteArrayOutputStream();
    private int open = 0;
    private int many = 0;

    Bits number(int value, int n) {
        for (int k = 0; k < n; k++) {
            bit(value >> k & 1);
        }
        return this;
    }

    Bits code(int value, int n) {
        for (int k = n - 1; k >= 0; k--) {
            bit(value >> k & 1);
        }
        return this;
    }

    Bits code(String digits) {
        for (char c : digits.toCharArray()) {
            bit(c - '0');
        }
        return this;
    }

    Bits block(int last, int kind) {
        return number(last, 1).number(kind, 2);
    }

    /** A symbol of FIXED's first code. */
    Bits fixed(int s) {
        return s < 144 ? code(48 + s, 8) : s < 256 ? code(400 + s - 144, 9) : s < 280 ? code(s - 256, 7) : code(192 + s - 280, 8);
    }

    Bits distance(int d) {
        return code(d, 5);
    }

    Bits align() {
        while (many != 0) {
            bit(0);
        }
        return this;
    }

    /** The head of a CODED block, with the bits of the third code's symbols (by symbol). */
    Bits coded(int firsts, int seconds, int... third) {
        int[] order = {16, 17, 18, 0, 8, 7, 9, 6, 10, 5, 11, 4, 12, 3, 13, 2, 14, 1, 15};
        number(firsts - 257, 5).number(seconds - 1, 5).number(15, 4);
        for (int s : order) {
            number(s < third.length ? third[s] : 0, 3);
        }
        return this;
    }

    /** How many bits there are. */
    int size() {
        return 8 * bytes.size() + many;
    }

    /** Symbols that make so many bytes, each the same, behind one that is there. */
    Bits more(int n) {
        int left = n;
        while (left > 0) {
            int length = left > 260 ? 258 : left > 258 ? left - 3 : left;
            length(length).distance(0);
            left -= length;
        }
        return this;
    }

    /** The length's symbol of FIXED and its number; 258 as symbol 285. */
    Bits length(int length) {
        if (length == 258) {
            return fixed(285);
        }
        int value = length - 3;
        int e = 0;
        while (value >> e >= 8) {
            e++;
        }
        return fixed(257 + 4 * e + (value >> e)).number(value, e);
    }

    byte[] done() {
        align();
        return bytes.toByteArray();
    }

    private void bit(int value) {
        open |= value << many;
        many++;
        if (many == 8) {
            bytes.write(open);
            open = 0;
            many = 0;
        }
    }
}
