/** PRESSED once more, by trying every place before each place. */
final class PressOracle {
    private PressOracle() {
    }

    static byte[] press(byte[] row) {
        Bits bits = new Bits().block(1, 1);
        int at = 0;
        while (at < row.length) {
            int best = 0;
            int from = 0;
            int most = Math.min(258, row.length - at);
            for (int q = at - 1; q >= 0 && best < most; q--) {
                int n = 0;
                while (n < most && row[q + n] == row[at + n]) {
                    n++;
                }
                if (n > best) {
                    best = n;
                    from = q;
                }
            }
            if (best < 3) {
                bits.fixed(row[at] & 255);
                at++;
            } else {
                length(bits, best);
                distance(bits, at - from);
                at += best;
            }
        }
        return bits.fixed(256).done();
    }

    private static void length(Bits bits, int length) {
        for (int k = 28; k >= 0; k--) {
            int e = k < 8 || k == 28 ? 0 : k / 4 - 1;
            int least = k < 8 ? 3 + k : k == 28 ? 258 : 3 + ((4 + k % 4) << e);
            if (length >= least) {
                bits.fixed(257 + k).number(length - least, e);
                return;
            }
        }
    }

    private static void distance(Bits bits, int distance) {
        for (int d = 29; d >= 0; d--) {
            int e = d < 4 ? 0 : d / 2 - 1;
            int least = 1 + (d < 4 ? d : (2 + d % 2) << e);
            if (distance >= least) {
                bits.distance(d).number(distance - least, e);
                return;
            }
        }
    }
}
