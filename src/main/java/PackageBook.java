import java.util.Arrays;

/**
 * A package of parts that is kept in one file. Everything that a call needs is made with the object and used again, so
 * that no later call makes anything.
 */
public final class PackageBook {
    private static final int MOST_TYPED = 8000;
    private static final int MOST_PARTS = 16;
    private static final int MOST_NAME = 24;
    private static final int MOST_BYTES = 4000;
    private static final int MOST_IN_ALL = 12000;

    private static final int RECORD_MARK = 0x04034B50;
    private static final int ENTRY_MARK = 0x02014B50;
    private static final int END_MARK = 0x06054B50;
    private static final int RECORD_HEAD = 30;
    private static final int ENTRY_HEAD = 46;
    private static final int END_SIZE = 22;
    // From its first 20 to the 0 behind the name's count a record has the same bytes as its entry.
    private static final int SHARED_IN_RECORD = 4;
    private static final int SHARED_IN_ENTRY = 6;
    private static final int SHARED_SIZE = 26;
    private static final int MOST_FILE =
        MOST_IN_ALL + MOST_PARTS * (RECORD_HEAD + ENTRY_HEAD + 2 * MOST_NAME) + END_SIZE;
    // Three bits, nine for each byte, and seven for the end, in whole bytes.
    private static final int MOST_PRESSED = (3 + 9 * MOST_BYTES + 7 + 7) / 8;

    private final Row tape = new Row(MOST_TYPED);
    private final Row came = new Row(MOST_PRESSED);
    private final Presser presser = new Presser();
    private final Expander expander = new Expander();
    private final FileMaker maker = new FileMaker();
    private final FileReader reader = new FileReader();
    private final Markup markup = new Markup();
    private final Findings findings = new Findings();
    private final int[] goals = new int[MOST_PARTS];
    private Shelf parts = new Shelf();
    private Shelf spare = new Shelf();

    public PackageBook() {
    }

    public int type(long w, int n) throws IllegalArgumentException, UnsupportedOperationException {
        if (n < 1 || n > 8) {
            throw new IllegalArgumentException("one to eight bytes can be typed");
        }
        if (tape.size + n > MOST_TYPED) {
            throw new UnsupportedOperationException("the tape is full");
        }
        for (int k = 0; k < n; k++) {
            tape.putByte((int) (w >>> (8 * k)));
        }
        return tape.size;
    }

    public int again(int n) throws IllegalArgumentException, UnsupportedOperationException {
        if (n < 0 || n > tape.size) {
            throw new IllegalArgumentException("the tape has not so many bytes");
        }
        if (tape.size + n > MOST_TYPED) {
            throw new UnsupportedOperationException("the tape is full");
        }
        tape.putBytes(tape.bytes, tape.size - n, n);
        return tape.size;
    }

    public int add(int n) throws IllegalArgumentException, UnsupportedOperationException {
        int typed = takeTape();
        if (n < 0 || n > typed || !isName(tape.bytes, 0, n)) {
            throw new IllegalArgumentException("the tape does not begin with such a name");
        }
        int old = parts.find(tape.bytes, 0, n);
        if (!parts.hasRoom(old, typed - n)) {
            throw new UnsupportedOperationException("too many parts or bytes");
        }
        parts.takeOut(old);
        parts.bringIn(tape.bytes, 0, n, tape.bytes, n, typed - n);
        return parts.count;
    }

    public boolean remove() {
        int typed = takeTape();
        int old = parts.find(tape.bytes, 0, typed);
        parts.takeOut(old);
        return old >= 0;
    }

    public int about(int what, int i) throws IndexOutOfBoundsException {
        if (what == 0) {
            return parts.count;
        }
        if (what == 3) {
            return parts.inAll();
        }
        if ((what != 1 && what != 2) || !parts.has(i)) {
            throw new IndexOutOfBoundsException("no such part or question");
        }
        return what == 1 ? parts.nameSizes[i] : parts.sizeOf(i);
    }

    public int byteOf(int i, int k) throws IndexOutOfBoundsException {
        if (!parts.has(i) || k < 0 || k >= parts.nameSizes[i] + parts.sizeOf(i)) {
            throw new IndexOutOfBoundsException("no such part or byte");
        }
        int behind = k - parts.nameSizes[i];
        return (behind < 0 ? parts.names[MOST_NAME * i + k] : parts.bytes[parts.begins[i] + behind]) & 255;
    }

    public int write() {
        maker.make(parts, presser);
        return maker.made.size;
    }

    public int file(int i) throws IndexOutOfBoundsException {
        return byteIn(maker.made, i);
    }

    public int read() {
        return settle(reader.run(tape.bytes, takeTape(), spare, expander));
    }

    public int reread(int at, int x) throws IndexOutOfBoundsException, IllegalArgumentException {
        Row made = maker.made;
        if (at < 0 || at >= made.size) {
            throw new IndexOutOfBoundsException("no such byte");
        }
        if (x < 0 || x > 255) {
            throw new IllegalArgumentException("a byte is changed by 0 to 255");
        }
        made.bytes[at] ^= (byte) x;
        int answer = reader.run(made.bytes, made.size, spare, expander);
        made.bytes[at] ^= (byte) x;
        return settle(answer);
    }

    public int press() throws UnsupportedOperationException {
        int typed = takeTape();
        if (typed > MOST_BYTES) {
            throw new UnsupportedOperationException("too many bytes");
        }
        presser.run(tape.bytes, 0, typed);
        came.become(presser.pressed);
        return came.size;
    }

    public int expand() {
        int answer = expander.run(tape.bytes, 0, takeTape());
        if (answer >= 0) {
            came.become(expander.expanded);
        }
        return answer;
    }

    public int sum() {
        return sumOf(tape.bytes, 0, takeTape());
    }

    public int out(int i) throws IndexOutOfBoundsException {
        return byteIn(came, i);
    }

    public int check() {
        findings.count = 0;
        for (int i = 0; i < parts.count; i++) {
            goals[i] = 0;
            if (!parts.isTeller(i)) {
                markup.load(parts, i);
                goals[i] = markup.allGoals();
                noteRelations(i);
            }
        }
        noteUnreached();
        return findings.count;
    }

    public int fault(int k, int what) throws IndexOutOfBoundsException {
        if (k < 0 || k >= findings.count || what < 0 || what > 2) {
            throw new IndexOutOfBoundsException("no such fault or question");
        }
        return what == 0 ? findings.kinds[k] : what == 1 ? findings.owners[k] : findings.places[k];
    }

    public int relations(int i) throws IndexOutOfBoundsException {
        if (!parts.has(i)) {
            throw new IndexOutOfBoundsException("no such part");
        }
        markup.load(parts, i);
        return markup.isFaulty() ? -1 : markup.count;
    }

    public int relation(int i, int k) throws IndexOutOfBoundsException {
        if (!parts.has(i)) {
            throw new IndexOutOfBoundsException("no such part");
        }
        markup.load(parts, i);
        if (k < 0 || k >= markup.count) {
            throw new IndexOutOfBoundsException("no such relation");
        }
        return markup.goals[k];
    }

    // The bytes stay in their row, so that the call that takes the tape can still look at them.
    private int takeTape() {
        int typed = tape.size;
        tape.size = 0;
        return typed;
    }

    // The reader fills the spare shelf, so that a fault leaves the parts alone.
    private int settle(int answer) {
        if (answer == 0) {
            Shelf old = parts;
            parts = spare;
            spare = old;
        }
        return answer;
    }

    private void noteRelations(int i) {
        if (markup.isFaulty()) {
            findings.note(1, i, markup.fault);
        }
        for (int k = 0; k < markup.count; k++) {
            if (markup.isRepeated(k)) {
                findings.note(2, i, k);
            }
            if (markup.goals[k] < 0) {
                findings.note(3, i, k);
            }
        }
    }

    private void noteUnreached() {
        int reached = reachedFromRoot();
        for (int i = 0; i < parts.count; i++) {
            if ((reached >> i & 1) == 0 && !parts.isTeller(i)) {
                findings.note(4, i, 0);
            }
        }
    }

    // Of parts that are relations themselves the goals are empty, so nothing is reached through them.
    private int reachedFromRoot() {
        int reached = 0;
        for (int i = 0; i < parts.count; i++) {
            if (parts.isNamed(i, "root")) {
                reached = 1 << i;
            }
        }
        for (int round = 0; round < parts.count; round++) {
            for (int i = 0; i < parts.count; i++) {
                if ((reached >> i & 1) == 1) {
                    reached |= goals[i];
                }
            }
        }
        return reached;
    }

    private static int byteIn(Row row, int i) {
        if (i < 0 || i >= row.size) {
            throw new IndexOutOfBoundsException("no such byte");
        }
        return row.bytes[i] & 255;
    }

    private static boolean isName(byte[] row, int from, int size) {
        if (size < 1 || size > MOST_NAME) {
            return false;
        }
        int end = from + size;
        int begin = from;
        for (int k = from; k < end; k++) {
            if (row[k] == '/') {
                if (!isPiece(row, begin, k)) {
                    return false;
                }
                begin = k + 1;
            }
        }
        return isPiece(row, begin, end);
    }

    private static boolean isPiece(byte[] row, int from, int end) {
        int dots = 0;
        for (int k = from; k < end; k++) {
            int b = row[k];
            if (b == '.') {
                dots++;
            } else if ((b < 'a' || b > 'z') && (b < '0' || b > '9') && b != '_') {
                return false;
            }
        }
        return end > from && (dots < end - from || dots > 2);
    }

    private static boolean isSame(byte[] one, int from, byte[] other, int otherFrom, int size) {
        for (int k = 0; k < size; k++) {
            if (one[from + k] != other[otherFrom + k]) {
                return false;
            }
        }
        return true;
    }

    private static int sumOf(byte[] row, int from, int size) {
        int remainder = -1;
        for (int k = from; k < from + size; k++) {
            remainder ^= row[k] & 255;
            for (int bit = 0; bit < 8; bit++) {
                int went = remainder & 1;
                remainder = (remainder >>> 1) ^ (went == 1 ? 0xEDB88320 : 0);
            }
        }
        return ~remainder;
    }

    private static int twoAt(byte[] row, int at) {
        return (row[at] & 255) | ((row[at + 1] & 255) << 8);
    }

    // As a long, since four bytes have no sign in a file.
    private static long fourAt(byte[] row, int at) {
        return twoAt(row, at) | ((long) twoAt(row, at + 2) << 16);
    }

    /** Bytes that become more. */
    private static final class Row {
        private final byte[] bytes;
        private int size;

        Row(int most) {
            bytes = new byte[most];
        }

        void putByte(int value) {
            if (size < bytes.length) {
                bytes[size] = (byte) value;
                size++;
            }
        }

        void putTwo(int value) {
            putByte(value);
            putByte(value >> 8);
        }

        void putFour(int value) {
            putTwo(value);
            putTwo(value >> 16);
        }

        void putBytes(byte[] row, int from, int n) {
            if (n <= bytes.length - size) {
                System.arraycopy(row, from, bytes, size, n);
                size += n;
            }
        }

        void become(Row other) {
            size = 0;
            putBytes(other.bytes, 0, other.size);
        }
    }

    /** Parts in the order of their names; their bytes stand in the same order, one part's behind the other's. */
    private static final class Shelf {
        private static final String TELLS = ".rels";

        private final byte[] names = new byte[MOST_PARTS * MOST_NAME];
        private final int[] nameSizes = new int[MOST_PARTS];
        private final byte[] bytes = new byte[MOST_IN_ALL];
        // One more than there are parts: the last one is where all bytes end.
        private final int[] begins = new int[MOST_PARTS + 1];
        private int count;

        void clear() {
            count = 0;
            begins[0] = 0;
        }

        boolean has(int i) {
            return i >= 0 && i < count;
        }

        int sizeOf(int i) {
            return begins[i + 1] - begins[i];
        }

        int inAll() {
            return begins[count];
        }

        int find(byte[] row, int from, int size) {
            for (int i = 0; i < count; i++) {
                if (nameSizes[i] == size && isSame(names, MOST_NAME * i, row, from, size)) {
                    return i;
                }
            }
            return -1;
        }

        /** Whether size bytes can come, instead of those of the part old if that is one. */
        boolean hasRoom(int old, int size) {
            int gone = has(old) ? sizeOf(old) : 0;
            return (has(old) || count < MOST_PARTS) && size <= MOST_BYTES && inAll() - gone + size <= MOST_IN_ALL;
        }

        void takeOut(int i) {
            if (!has(i)) {
                return;
            }
            int gone = sizeOf(i);
            int behind = count - i - 1;
            System.arraycopy(bytes, begins[i + 1], bytes, begins[i], inAll() - begins[i + 1]);
            System.arraycopy(names, MOST_NAME * (i + 1), names, MOST_NAME * i, MOST_NAME * behind);
            System.arraycopy(nameSizes, i + 1, nameSizes, i, behind);
            for (int k = i; k < count; k++) {
                begins[k] = begins[k + 1] - gone;
            }
            count--;
        }

        /** A part that is not here yet, and that there is room for. */
        void bringIn(byte[] nameRow, int nameFrom, int nameSize, byte[] row, int from, int size) {
            int i = placeOf(nameRow, nameFrom, nameSize);
            int behind = count - i;
            System.arraycopy(bytes, begins[i], bytes, begins[i] + size, inAll() - begins[i]);
            System.arraycopy(names, MOST_NAME * i, names, MOST_NAME * (i + 1), MOST_NAME * behind);
            System.arraycopy(nameSizes, i, nameSizes, i + 1, behind);
            for (int k = count; k >= i; k--) {
                begins[k + 1] = begins[k] + size;
            }
            System.arraycopy(nameRow, nameFrom, names, MOST_NAME * i, nameSize);
            System.arraycopy(row, from, bytes, begins[i], size);
            nameSizes[i] = nameSize;
            count++;
        }

        private int placeOf(byte[] row, int from, int size) {
            int i = 0;
            while (i < count && isBefore(i, row, from, size)) {
                i++;
            }
            return i;
        }

        private boolean isBefore(int i, byte[] row, int from, int size) {
            for (int k = 0; k < size && k < nameSizes[i]; k++) {
                int differ = names[MOST_NAME * i + k] - row[from + k];
                if (differ != 0) {
                    return differ < 0;
                }
            }
            return nameSizes[i] < size;
        }

        boolean isNamed(int i, String name) {
            return nameSizes[i] == name.length() && endsWith(i, name);
        }

        private boolean endsWith(int i, String end) {
            int from = nameSizes[i] - end.length();
            for (int k = 0; k < end.length(); k++) {
                if (from < 0 || names[MOST_NAME * i + from + k] != end.charAt(k)) {
                    return false;
                }
            }
            return true;
        }

        /** Whether the part is relations itself. */
        boolean isTeller(int i) {
            return endsWith(i, TELLS) && find(names, MOST_NAME * i, nameSizes[i] - TELLS.length()) >= 0;
        }

        /** The part that tells the relations of part i, or -1. */
        int tellerOf(int i) {
            int size = nameSizes[i];
            for (int k = 0; k < count; k++) {
                if (nameSizes[k] == size + TELLS.length() && endsWith(k, TELLS)
                    && isSame(names, MOST_NAME * i, names, MOST_NAME * k, size)) {
                    return k;
                }
            }
            return -1;
        }
    }

    /** What a check found. */
    private static final class Findings {
        // A relation has 20 bytes at least and two faults at most; a part may have its markup's, and one more.
        private static final int MOST = MOST_IN_ALL / 20 * 2 + MOST_PARTS * 2;

        private final int[] kinds = new int[MOST];
        private final int[] owners = new int[MOST];
        private final int[] places = new int[MOST];
        private int count;

        void note(int kind, int owner, int place) {
            if (count < MOST) {
                kinds[count] = kind;
                owners[count] = owner;
                places[count] = place;
                count++;
            }
        }
    }

    /** A code of a stream: its symbols in the order of their codes, and how many of them have how many bits. */
    private static final class Code {
        private static final int MOST_BITS = 15;

        private final int[] counts = new int[MOST_BITS + 1];
        private final int[] symbols;
        private int size;

        Code(int most) {
            symbols = new int[most];
        }

        /** The n numbers of bits from a place on tell the code; none is above 15, and n is not above most. */
        void tell(int[] bits, int from, int n) {
            size = 0;
            counts[0] = 0;
            for (int many = 1; many <= MOST_BITS; many++) {
                int before = size;
                for (int k = 0; k < n; k++) {
                    if (bits[from + k] == many) {
                        symbols[size] = k;
                        size++;
                    }
                }
                counts[many] = size - before;
            }
        }

        boolean isRight() {
            int free = 1;
            for (int many = 1; many <= MOST_BITS; many++) {
                free = 2 * free - counts[many];
                if (free < 0) {
                    return false;
                }
            }
            return free == 0 || (size == 1 && counts[1] == 1);
        }
    }

    /** Reads a stream. The first fault stays, and behind it nothing more is read. */
    private static final class Expander {
        private static final int[] THIRD_ORDER = {
            16, 17, 18, 0, 8, 7, 9, 6, 10, 5, 11, 4, 12, 3, 13, 2, 14, 1, 15
        };
        private static final int END_SYMBOL = 256;
        private static final int FIXED_FIRST = 288;
        private static final int FIXED_SECOND = 32;
        private static final int MOST_FIRST = 286;
        private static final int MOST_SECOND = 30;

        private final Row expanded = new Row(MOST_BYTES);
        private final int[] told = new int[MOST_FIRST + MOST_SECOND];
        private final Code fixedFirst = new Code(FIXED_FIRST);
        private final Code fixedSecond = new Code(FIXED_SECOND);
        private final Code first = new Code(MOST_FIRST);
        private final Code second = new Code(MOST_SECOND);
        private final Code third = new Code(THIRD_ORDER.length);
        private byte[] row = new byte[0];
        // Places of bits.
        private int at;
        private int end;
        private int fault;

        Expander() {
            int[] fixed = new int[FIXED_FIRST + FIXED_SECOND];
            setAll(fixed, 0, 144, 8);
            setAll(fixed, 144, 256, 9);
            setAll(fixed, 256, 280, 7);
            setAll(fixed, 280, FIXED_FIRST, 8);
            setAll(fixed, FIXED_FIRST, FIXED_FIRST + FIXED_SECOND, 5);
            fixedFirst.tell(fixed, 0, FIXED_FIRST);
            fixedSecond.tell(fixed, FIXED_FIRST, FIXED_SECOND);
        }

        private static void setAll(int[] bits, int from, int end, int value) {
            for (int k = from; k < end; k++) {
                bits[k] = value;
            }
        }

        /** How many bytes came out, or the fault, made negative. */
        int run(byte[] bytes, int from, int size) {
            row = bytes;
            at = 8 * from;
            end = 8 * (from + size);
            fault = 0;
            expanded.size = 0;
            boolean last = false;
            // A block has three bits at least: the fault 1 comes before the counter ends.
            for (int block = 0; block <= 8 * size && !last && fault == 0; block++) {
                last = number(1) == 1;
                int kind = number(2);
                if (kind == 0) {
                    readStored();
                } else if (kind == 1) {
                    readSymbols(fixedFirst, fixedSecond);
                } else if (kind == 2) {
                    readCodes();
                    readSymbols(first, second);
                } else {
                    fail(2);
                }
            }
            if (at + 7 < end) {
                fail(8);
            }
            return fault == 0 ? expanded.size : -fault;
        }

        private void readStored() {
            at = (at + 7) / 8 * 8;
            int size = number(16);
            if (number(16) != 65535 - size) {
                fail(3);
            }
            for (int k = 0; k < size && fault == 0; k++) {
                putByte(number(8));
            }
        }

        private void readCodes() {
            int firsts = 257 + number(5);
            int seconds = 1 + number(5);
            int thirds = 4 + number(4);
            if (firsts > MOST_FIRST || seconds > MOST_SECOND) {
                fail(4);
            }
            if (fault != 0) {
                return;
            }
            Arrays.fill(told, 0);
            for (int k = 0; k < thirds; k++) {
                told[THIRD_ORDER[k]] = number(3);
            }
            third.tell(told, 0, THIRD_ORDER.length);
            if (!third.isRight()) {
                fail(4);
            }
            readTold(firsts + seconds);
            first.tell(told, 0, firsts);
            second.tell(told, firsts, seconds);
            if (!first.isRight() || told[END_SYMBOL] == 0 || (second.size > 0 && !second.isRight())) {
                fail(4);
            }
        }

        private void readTold(int all) {
            int k = 0;
            // Each round tells one symbol at least, or is a fault.
            for (int round = 0; round < all && k < all && fault == 0; round++) {
                int symbol = symbol(third);
                if (symbol == 16 && k == 0) {
                    fail(4);
                }
                int value = symbol < 16 ? symbol : symbol == 16 && k > 0 ? told[k - 1] : 0;
                int times = leastTimes(symbol) + number(bitsOfTimes(symbol));
                if (times > all - k) {
                    fail(4);
                }
                if (fault == 0) {
                    setAll(told, k, k + times, value);
                    k += times;
                }
            }
        }

        private static int leastTimes(int symbol) {
            return symbol < 16 ? 1 : symbol < 18 ? 3 : 11;
        }

        private static int bitsOfTimes(int symbol) {
            return symbol < 16 ? 0 : symbol == 16 ? 2 : symbol == 17 ? 3 : 7;
        }

        private void readSymbols(Code one, Code other) {
            boolean ended = false;
            // A symbol has one bit at least: the fault 1 comes before the counter ends.
            for (int left = end - at; left >= 0 && !ended && fault == 0; left--) {
                int symbol = symbol(one);
                if (symbol < END_SYMBOL) {
                    putByte(symbol);
                } else if (symbol == END_SYMBOL) {
                    ended = true;
                } else {
                    repeat(symbol - 257, other);
                }
            }
        }

        private void repeat(int k, Code other) {
            if (k > 28) {
                fail(5);
            }
            int length = leastLength(k) + number(bitsOfLength(k));
            int d = symbol(other);
            if (d >= MOST_SECOND) {
                fail(5);
            }
            int distance = leastDistance(d) + number(bitsOfDistance(d));
            if (distance > expanded.size) {
                fail(6);
            }
            if (length > MOST_BYTES - expanded.size) {
                fail(7);
            }
            for (int n = 0; n < length && fault == 0; n++) {
                expanded.putByte(expanded.bytes[expanded.size - distance]);
            }
        }

        private static int bitsOfLength(int k) {
            return k < 8 || k >= 28 ? 0 : k / 4 - 1;
        }

        private static int leastLength(int k) {
            return k < 8 ? 3 + k : k >= 28 ? 258 : 3 + ((4 + k % 4) << (k / 4 - 1));
        }

        private static int bitsOfDistance(int d) {
            return d < 4 ? 0 : d / 2 - 1;
        }

        private static int leastDistance(int d) {
            return d < 4 ? 1 + d : 1 + ((2 + d % 2) << (d / 2 - 1));
        }

        private void putByte(int value) {
            if (expanded.size == MOST_BYTES) {
                fail(7);
            }
            if (fault == 0) {
                expanded.putByte(value);
            }
        }

        /** The next symbol; 0 behind a fault. */
        private int symbol(Code code) {
            int bits = 0;
            int begin = 0;
            int passed = 0;
            // When all codes are passed, none can begin with these bits.
            for (int many = 1; many <= Code.MOST_BITS && passed < code.size && fault == 0; many++) {
                if (at >= end) {
                    fault = 1;
                    return 0;
                }
                bits = 2 * bits + (row[at >> 3] >> (at & 7) & 1);
                at++;
                begin = 2 * begin;
                int here = code.counts[many];
                if (bits - begin < here) {
                    return code.symbols[passed + bits - begin];
                }
                begin += here;
                passed += here;
            }
            fault = fault == 0 ? 5 : fault;
            return 0;
        }

        /** A number of so many bits, the lowest first; 0 behind a fault. */
        private int number(int bits) {
            if (fault == 0 && bits > end - at) {
                fault = 1;
            }
            if (fault != 0) {
                return 0;
            }
            int value = 0;
            for (int k = 0; k < bits; k++) {
                value |= (row[at >> 3] >> (at & 7) & 1) << k;
                at++;
            }
            return value;
        }

        private void fail(int which) {
            if (fault == 0) {
                fault = which;
            }
        }
    }

    /** Makes PRESSED of a row of bytes. */
    private static final class Presser {
        private static final int SHORTEST = 3;
        private static final int LONGEST = 258;
        private static final int HEADS = 1024;

        private final Row pressed = new Row(MOST_PRESSED);
        // Places whose three bytes have the same mix are a chain, from the nearest one back: only these can be alike.
        private final int[] latest = new int[HEADS];
        private final int[] earlier = new int[MOST_BYTES];
        private byte[] row = new byte[0];
        private int begin;
        private int size;
        private int bits;
        private int length;
        private int distance;

        void run(byte[] bytes, int from, int n) {
            row = bytes;
            begin = from;
            size = n;
            pressed.size = 0;
            bits = 0;
            Arrays.fill(latest, -1);
            putNumber(1, 1);
            putNumber(1, 2);
            int next = 0;
            for (int place = 0; place < size; place++) {
                if (place == next) {
                    findLongest(place);
                    if (length < SHORTEST) {
                        putSymbol(row[begin + place] & 255);
                    } else {
                        putLength();
                        putDistance();
                    }
                    next += length;
                }
                remember(place);
            }
            putSymbol(256);
        }

        private void findLongest(int place) {
            int most = Math.min(LONGEST, size - place);
            length = 1;
            if (most < SHORTEST) {
                return;
            }
            int other = latest[mixAt(place)];
            for (int seen = 0; seen < place && other >= 0 && length < most; seen++) {
                int same = sameFrom(other, place, most);
                if (same >= SHORTEST && same > length) {
                    length = same;
                    distance = place - other;
                }
                other = earlier[other];
            }
        }

        private int sameFrom(int other, int place, int most) {
            int same = 0;
            while (same < most && row[begin + other + same] == row[begin + place + same]) {
                same++;
            }
            return same;
        }

        private void remember(int place) {
            if (size - place >= SHORTEST) {
                int mix = mixAt(place);
                earlier[place] = latest[mix];
                latest[mix] = place;
            }
        }

        private int mixAt(int place) {
            int at = begin + place;
            return ((row[at] << 6) ^ (row[at + 1] << 3) ^ row[at + 2]) & (HEADS - 1);
        }

        private void putLength() {
            if (length == LONGEST) {
                putSymbol(257 + 28);
                return;
            }
            int value = length - 3;
            int more = 0;
            while (more < 5 && value >> more >= 8) {
                more++;
            }
            putSymbol(257 + 4 * more + (value >> more));
            putNumber(value, more);
        }

        private void putDistance() {
            int value = distance - 1;
            int more = 0;
            while (more < 13 && value >> more >= 4) {
                more++;
            }
            putNumber(turned(2 * more + (value >> more), 5), 5);
            putNumber(value, more);
        }

        private void putSymbol(int symbol) {
            if (symbol < 144) {
                putNumber(turned(48 + symbol, 8), 8);
            } else if (symbol < 256) {
                putNumber(turned(400 + symbol - 144, 9), 9);
            } else if (symbol < 280) {
                putNumber(turned(symbol - 256, 7), 7);
            } else {
                putNumber(turned(192 + symbol - 280, 8), 8);
            }
        }

        // A code has its highest bit first, a number its lowest.
        private static int turned(int code, int many) {
            int value = 0;
            for (int k = 0; k < many; k++) {
                value = 2 * value + (code >> k & 1);
            }
            return value;
        }

        private void putNumber(int value, int many) {
            for (int k = 0; k < many; k++) {
                if (bits % 8 == 0 && pressed.size < MOST_PRESSED) {
                    pressed.bytes[pressed.size] = 0;
                    pressed.size++;
                }
                pressed.bytes[pressed.size - 1] |= (byte) ((value >> k & 1) << (bits % 8));
                bits++;
            }
        }
    }

    /** Makes THE FILE of parts. */
    private static final class FileMaker {
        private final Row made = new Row(MOST_FILE);
        private final int[] records = new int[MOST_PARTS];

        void make(Shelf parts, Presser presser) {
            made.size = 0;
            for (int i = 0; i < parts.count; i++) {
                records[i] = made.size;
                putRecord(parts, i, presser);
            }
            int directory = made.size;
            for (int i = 0; i < parts.count; i++) {
                putEntry(parts, i);
            }
            putEnd(parts.count, directory);
        }

        private void putRecord(Shelf parts, int i, Presser presser) {
            int begin = parts.begins[i];
            int size = parts.sizeOf(i);
            presser.run(parts.bytes, begin, size);
            boolean fewer = presser.pressed.size < size;
            made.putFour(RECORD_MARK);
            made.putTwo(20);
            made.putTwo(0);
            made.putTwo(fewer ? 8 : 0);
            made.putTwo(0);
            made.putTwo(33);
            made.putFour(sumOf(parts.bytes, begin, size));
            made.putFour(fewer ? presser.pressed.size : size);
            made.putFour(size);
            made.putTwo(parts.nameSizes[i]);
            made.putTwo(0);
            made.putBytes(parts.names, MOST_NAME * i, parts.nameSizes[i]);
            if (fewer) {
                made.putBytes(presser.pressed.bytes, 0, presser.pressed.size);
            } else {
                made.putBytes(parts.bytes, begin, size);
            }
        }

        private void putEntry(Shelf parts, int i) {
            made.putFour(ENTRY_MARK);
            made.putTwo(20);
            made.putBytes(made.bytes, records[i] + SHARED_IN_RECORD, SHARED_SIZE);
            made.putTwo(0);
            made.putTwo(0);
            made.putTwo(0);
            made.putFour(0);
            made.putFour(records[i]);
            made.putBytes(parts.names, MOST_NAME * i, parts.nameSizes[i]);
        }

        private void putEnd(int entries, int directory) {
            int size = made.size - directory;
            made.putFour(END_MARK);
            made.putTwo(0);
            made.putTwo(0);
            made.putTwo(entries);
            made.putTwo(entries);
            made.putFour(size);
            made.putFour(directory);
            made.putTwo(0);
        }
    }

    /** READS a row of bytes as a file. */
    private static final class FileReader {
        private byte[] row = new byte[0];

        /** 0, and the parts are on the shelf; or the fault, and what is on the shelf does not count. */
        int run(byte[] bytes, int size, Shelf shelf, Expander expander) {
            row = bytes;
            shelf.clear();
            int end = size - END_SIZE;
            if (end < 0 || !isEnd(end)) {
                return 1;
            }
            int entries = twoAt(row, end + 8);
            long directory = fourAt(row, end + 16);
            if (directory + fourAt(row, end + 12) != end || !isDirectory((int) directory, end, entries)) {
                return 2;
            }
            int fault = 0;
            int at = (int) directory;
            for (int k = 0; k < entries && fault == 0; k++) {
                fault = readEntry(at, directory, shelf, expander);
                at += ENTRY_HEAD + twoAt(row, at + 28);
            }
            return fault;
        }

        private boolean isEnd(int at) {
            return fourAt(row, at) == END_MARK && fourAt(row, at + 4) == 0
                && twoAt(row, at + 8) == twoAt(row, at + 10) && twoAt(row, at + 20) == 0;
        }

        private boolean isDirectory(int from, int end, int entries) {
            int at = from;
            for (int k = 0; k < entries; k++) {
                if (end - at < ENTRY_HEAD || !isEntry(at)) {
                    return false;
                }
                at += ENTRY_HEAD + twoAt(row, at + 28);
            }
            return at == end;
        }

        private boolean isEntry(int at) {
            int method = twoAt(row, at + 10);
            return fourAt(row, at) == ENTRY_MARK && twoAt(row, at + 4) == 20 && twoAt(row, at + 6) == 20
                && twoAt(row, at + 8) == 0 && (method == 0 || method == 8)
                && fourAt(row, at + 30) == 0 && fourAt(row, at + 34) == 0 && fourAt(row, at + 38) == 0;
        }

        private int readEntry(int at, long limit, Shelf shelf, Expander expander) {
            long record = fourAt(row, at + 42);
            long size = fourAt(row, at + 20);
            int nameSize = twoAt(row, at + 28);
            long begin = record + RECORD_HEAD + nameSize;
            if (begin + size > limit || !isRecordOf(at, (int) record, nameSize)) {
                return 3;
            }
            int name = at + ENTRY_HEAD;
            if (!isName(row, name, nameSize) || shelf.find(row, name, nameSize) >= 0) {
                return 4;
            }
            boolean isPressed = twoAt(row, at + 10) == 8;
            int many = isPressed ? expander.run(row, (int) begin, (int) size) : (int) size;
            byte[] bytes = isPressed ? expander.expanded.bytes : row;
            int from = isPressed ? 0 : (int) begin;
            if (many != fourAt(row, at + 24) || sumOf(bytes, from, many) != (int) fourAt(row, at + 16)) {
                return 5;
            }
            if (!shelf.hasRoom(-1, many)) {
                return 6;
            }
            shelf.bringIn(row, name, nameSize, bytes, from, many);
            return 0;
        }

        private boolean isRecordOf(int entry, int record, int nameSize) {
            return fourAt(row, record) == RECORD_MARK
                && isSame(row, entry + SHARED_IN_ENTRY, row, record + SHARED_IN_RECORD, SHARED_SIZE)
                && isSame(row, entry + ENTRY_HEAD, row, record + RECORD_HEAD, nameSize);
        }
    }

    /** The relations of one part, as the part that tells them says. */
    private static final class Markup {
        // An element has 20 bytes at least.
        private static final int MOST = MOST_BYTES / 20;
        private static final int MOST_ID = 8;
        private static final int QUOTE = 34;
        private static final int APOSTROPHE = 39;

        // The bytes of an id as one number: none of them is 0, so that no two ids are the same number.
        private final long[] ids = new long[MOST];
        private final int[] goals = new int[MOST];
        private final byte[] value = new byte[MOST_NAME];
        private byte[] row = new byte[0];
        private int count;
        private int fault = -1;
        private int begin;
        private int at;
        private int end;
        // How many bytes the value has; those that no name can have are counted only.
        private int valueSize;
        private boolean isOpen;
        private boolean hasId;
        private boolean hasTo;

        void load(Shelf shelf, int i) {
            row = shelf.bytes;
            count = 0;
            fault = -1;
            int teller = shelf.tellerOf(i);
            if (teller < 0) {
                return;
            }
            begin = shelf.begins[teller];
            at = begin;
            end = shelf.begins[teller + 1];
            boolean right = readHead();
            // Each round takes one byte at least.
            for (int left = end - at; left > 0 && right && isElementNext(); left--) {
                right = readElement(shelf) && skipGaps();
            }
            if (!right || !readTail()) {
                count = 0;
            }
        }

        boolean isFaulty() {
            return fault >= 0;
        }

        boolean isRepeated(int k) {
            for (int before = 0; before < k; before++) {
                if (ids[before] == ids[k]) {
                    return true;
                }
            }
            return false;
        }

        /** The parts that the relations go to, a bit each. */
        int allGoals() {
            int all = 0;
            for (int k = 0; k < count; k++) {
                if (goals[k] >= 0) {
                    all |= 1 << goals[k];
                }
            }
            return all;
        }

        private boolean readHead() {
            if (!skipGaps() || !takeText("<rels")) {
                return false;
            }
            skipSpace();
            isOpen = next(0) != '/';
            return isOpen ? takeText(">") && skipGaps() : takeText("/>");
        }

        private boolean isElementNext() {
            return isOpen && next(0) == '<' && next(1) != '/';
        }

        private boolean readTail() {
            if ((isOpen && !readClose("</rels")) || !skipGaps()) {
                return false;
            }
            if (at == end) {
                return true;
            }
            // The < may still be a comment's: then what comes behind it is what can't be so.
            return fail(next(0) == '<' ? at + 1 : at);
        }

        private boolean readClose(String name) {
            if (!takeText(name)) {
                return false;
            }
            skipSpace();
            return takeText(">");
        }

        private boolean readElement(Shelf shelf) {
            if (!takeText("<rel")) {
                return false;
            }
            hasId = false;
            hasTo = false;
            boolean spaced = skipSpace();
            // There are two names: a third attribute is a fault where it begins, as anything but / and > is there.
            for (int k = 0; k < 2 && next(0) != '/' && next(0) != '>'; k++) {
                if (!spaced) {
                    return fail(at);
                }
                if (!readAttribute(shelf)) {
                    return false;
                }
                spaced = skipSpace();
            }
            if (!hasId || !hasTo) {
                return fail(at);
            }
            count++;
            if (next(0) == '/') {
                return takeText("/>");
            }
            return takeText(">") && skipGaps() && readClose("</rel");
        }

        private boolean readAttribute(Shelf shelf) {
            int from = at;
            skipLetters();
            boolean isId = isText(from, "id");
            if (isId ? hasId : (hasTo || !isText(from, "to"))) {
                return fail(from);
            }
            if (!takeText("=")) {
                return false;
            }
            int quote = next(0);
            if (quote != QUOTE && quote != APOSTROPHE) {
                return fail(at);
            }
            at++;
            if (!readValue(quote)) {
                return false;
            }
            if (!(isId ? keepId() : keepGoal(shelf))) {
                return fail(at);
            }
            at++;
            return true;
        }

        /** Up to the closing quote. */
        private boolean readValue(int quote) {
            valueSize = 0;
            for (int left = end - at; left >= 0 && next(0) != quote; left--) {
                int b = next(0);
                if (b < 32 || b > 126 || b == '<') {
                    return fail(at);
                }
                at++;
                if (b == '&') {
                    b = next(0) == '#' ? readNumber() : readNamed();
                    if (b < 0 || !takeText(";")) {
                        return false;
                    }
                }
                if (valueSize < MOST_NAME) {
                    value[valueSize] = (byte) b;
                }
                valueSize++;
            }
            return true;
        }

        /** Behind the and: the byte, or -1 and the fault. */
        private int readNamed() {
            int from = at;
            skipLetters();
            if (isText(from, "amp")) {
                return '&';
            }
            if (isText(from, "lt")) {
                return '<';
            }
            if (isText(from, "gt")) {
                return '>';
            }
            if (isText(from, "quot")) {
                return QUOTE;
            }
            if (isText(from, "apos")) {
                return APOSTROPHE;
            }
            fail(from);
            return -1;
        }

        /** Behind the and: the byte, or -1 and the fault. */
        private int readNumber() {
            at++;
            int from = at;
            boolean isWrong = next(0) == '0';
            int number = 0;
            for (int k = 0; k < 3 && next(0) >= '0' && next(0) <= '9'; k++) {
                number = 10 * number + next(0) - '0';
                at++;
            }
            if (isWrong || number < 32 || number > 126) {
                fail(from);
                return -1;
            }
            return number;
        }

        private boolean keepId() {
            if (valueSize < 1 || valueSize > MOST_ID || count >= MOST) {
                return false;
            }
            long id = 0;
            for (int k = 0; k < valueSize; k++) {
                id = id << 8 | value[k];
            }
            ids[count] = id;
            hasId = true;
            return true;
        }

        private boolean keepGoal(Shelf shelf) {
            if (!isName(value, 0, valueSize) || count >= MOST) {
                return false;
            }
            goals[count] = shelf.find(value, 0, valueSize);
            hasTo = true;
            return true;
        }

        private boolean skipGaps() {
            for (int left = end - at; left >= 0; left--) {
                skipSpace();
                if (next(0) != '<' || next(1) != '!') {
                    return true;
                }
                if (!skipComment()) {
                    return false;
                }
            }
            return true;
        }

        private boolean skipComment() {
            if (!takeText("<!--")) {
                return false;
            }
            while (at < end && (next(0) != '-' || next(1) != '-')) {
                at++;
            }
            return takeText("-->");
        }

        private boolean skipSpace() {
            int from = at;
            while (at < end && isSpace(next(0))) {
                at++;
            }
            return at > from;
        }

        private void skipLetters() {
            while (at < end && row[at] >= 'a' && row[at] <= 'z') {
                at++;
            }
        }

        private boolean takeText(String text) {
            for (int k = 0; k < text.length(); k++) {
                if (next(0) != text.charAt(k)) {
                    return fail(at);
                }
                at++;
            }
            return true;
        }

        private boolean isText(int from, String text) {
            boolean same = at - from == text.length();
            for (int k = 0; k < text.length() && same; k++) {
                same = row[from + k] == text.charAt(k);
            }
            return same;
        }

        private static boolean isSpace(int b) {
            return b == 32 || b == 9 || b == 10 || b == 13;
        }

        /** The byte so far ahead, or -1 where the markup has ended. */
        private int next(int ahead) {
            return at + ahead < end ? row[at + ahead] & 255 : -1;
        }

        private boolean fail(int place) {
            fault = place - begin;
            return false;
        }
    }
}
