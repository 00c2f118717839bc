import java.util.Random;

/** Promises 10, 11. */
public final class ReadingTest {
    public static void main(String[] args) {
        whatIsRead();
        theEnd();
        theDirectory();
        records();
        names();
        contents();
        tooMuch();
        inTheirOrder();
        rereading();
        everyByte();
        mutated();
        Kit.end();
    }

    private static void due(String what, byte[] file, int want) {
        Kit.due(what + " by the oracle", new FileOracle(file).fault, want);
        Run book = new Book();
        Kit.add(book, "old", "stays");
        book.write();
        Kit.due(what, Kit.read(book, file), want);
        Kit.due(what + ", tape", book.again(0), 0);
        if (want != 0) {
            Kit.dueParts(what, book, "old");
            Kit.due(what, Kit.contentOf(book, 0), Kit.bytes("stays"));
        } else {
            dueSame(what, book, new FileOracle(file));
        }
        Kit.due("the file stays", book.reread(0, 0), 0);
        Kit.dueParts(what + ", reread", book, "old");
    }

    private static void dueSame(String what, Run book, FileOracle oracle) {
        Kit.dueParts(what, book, oracle.parts.keySet().toArray(new String[0]));
        int i = 0;
        for (byte[] content : oracle.parts.values()) {
            Kit.due(what + ", content " + i, Kit.contentOf(book, i), content);
            i++;
        }
    }

    private static Zip two() {
        return new Zip().fewest("b", Kit.filled("abc", 60)).part("a", "plain");
    }

    private static byte[] with(byte[] file, int at, int... bytes) {
        byte[] changed = file.clone();
        for (int k = 0; k < bytes.length; k++) {
            changed[(at < 0 ? file.length : 0) + at + k] = (byte) bytes[k];
        }
        return changed;
    }

    private static void whatIsRead() {
        due("no parts", new Zip().done(), 0);
        due("two, not in order", two().done(), 0);
        Zip zip = two();
        zip.before = Kit.bytes("something before");
        zip.between = Kit.bytes("and between");
        due("bytes that no record has", zip.done(), 0);
        zip = new Zip();
        zip.before = Kit.bytes("but no parts");
        due("bytes without parts", zip.done(), 0);
        zip = two();
        zip.parts.get(0).date = 0xABCD;
        due("another number behind the method", zip.done(), 0);
        // Another stream than PRESSED is one as well, even if it is longer.
        byte[] stored = new Bits().block(1, 0).align().number(2, 16).number(65533, 16).number('h', 8).number('i', 8).done();
        due("a stored stream", new Zip().part(new Zip.Part("s", Kit.bytes("hi")).stream(stored)).done(), 0);
        due("no bytes, pressed", new Zip().part(new Zip.Part("s", new byte[0]).stream(new byte[] {3, 0})).done(), 0);
    }

    private static void theEnd() {
        byte[] file = two().done();
        due("nothing", new byte[0], 1);
        due("too short", java.util.Arrays.copyOfRange(file, file.length - 21, file.length), 1);
        due("a byte behind", Kit.join(file, new byte[1]), 1);
        for (int k = 0; k < 22; k++) {
            boolean numbers = k >= 12 && k < 20;
            due("end's byte " + k, with(file, k - 22, file[file.length - 22 + k] ^ 64), numbers ? 2 : 1);
        }
        due("same number, but too many", with(file, -14, 3, 0, 3, 0), 2);
        due("same number, but too few", with(file, -14, 1, 0, 1, 0), 2);
        due("none", with(file, -14, 0, 0, 0, 0), 2);
    }

    private static void theDirectory() {
        byte[] file = two().done();
        int size = 2 * 47;
        int begin = file.length - 22 - size;
        due("begins a byte later", with(file, -10, size - 1, 0, 0, 0, begin + 1, begin + 1 >> 8), 2);
        due("ends beyond", with(file, -10, size + 1), 2);
        due("far away", with(file, -6, 255, 255, 255, 255), 2);
        due("negative size", with(file, -10, 255, 255, 255, 255, file.length - 21, file.length - 21 >> 8), 2);
        for (int entry : new int[] {begin, begin + 47}) {
            for (int k : new int[] {0, 1, 2, 3, 4, 5, 6, 7, 8, 9, 10, 11, 30, 31, 32, 33, 34, 35, 36, 37, 38, 39, 40, 41}) {
                due("entry's byte " + k, with(file, entry + k, file[entry + k] ^ 128), 2);
            }
            for (int k = 12; k < 16; k++) {
                due("any number in the entry, not in the record", with(file, entry + k, file[entry + k] ^ 128), 3);
            }
            due("method 8 with more", with(file, entry + 11, 1), 2);
            due("a longer name", with(file, entry + 28, 2), 2);
            due("a shorter name", with(file, entry + 28, 0), 2);
        }
        due("the second one counts before the first one's record",
            with(with(file, begin + 16, file[begin + 16] ^ 1), begin + 47 + 8, 1), 2);
    }

    private static void records() {
        byte[] file = two().done();
        int begin = file.length - 22 - 2 * 47;
        for (int k = 0; k < 31; k++) {
            due("record's byte " + k, with(file, k, file[k] ^ 1), 3);
        }
        for (int k : new int[] {16, 20, 24, 42, 43, 44, 45, 46}) {
            due("entry's byte " + k, with(file, begin + k, file[begin + k] ^ 1), 3);
        }
        due("record in the directory", with(file, begin + 42, begin, begin >> 8), 3);
        due("far away", with(file, begin + 42, 255, 255, 255, 255), 3);
        Zip zip = two();
        zip.parts.get(1).size += 1;
        due("a byte beyond, as the entry and the record say", zip.done(), 3);
        zip.parts.get(1).size = 0xFFFFFFFFL;
        due("many beyond", zip.done(), 3);
        zip.parts.get(1).size = 6;
        zip.between = new byte[1];
        due("one byte more within", zip.done(), 5);
    }

    private static void names() {
        for (String name : new String[] {"", "A", "a/", "..", "a//b", "abcdefghijklmnopqrstuvwxy", "a b"}) {
            due("name " + name, new Zip().part("x", "1").part(name, "2").done(), 4);
        }
        due("there already", new Zip().part("x", "1").part("x", "2").done(), 4);
        due("before its bytes", new Zip().part("x", "1").part(new Zip.Part("x", new byte[0]).stream(new byte[0])).done(), 4);
        Zip zip = new Zip().part("x", "1");
        Zip.Part twice = new Zip.Part("x", Kit.bytes("1"));
        twice.record = 0;
        twice.hasRecord = false;
        due("the same record twice", zip.part(twice).done(), 4);
        due("longest", new Zip().part("abcdefghijklmnopqrstuvwx", "1").done(), 0);
    }

    private static void contents() {
        Zip zip = two();
        zip.parts.get(1).sum ^= 0x80000000L;
        due("another sum", zip.done(), 5);
        zip = two();
        zip.parts.get(1).said++;
        due("said to be more", zip.done(), 5);
        zip = two();
        zip.parts.get(0).said--;
        due("said to be less", zip.done(), 5);
        zip = two();
        zip.parts.get(0).sum ^= 1;
        due("another sum, pressed", zip.done(), 5);
        zip = two();
        zip.parts.get(0).stored[0] = 7;
        due("no stream", zip.done(), 5);
        due("no stream at all", new Zip().part(new Zip.Part("s", new byte[0]).stream(new byte[0])).done(), 5);
        zip = two();
        zip.parts.get(1).said = 0x80000005L;
        due("very many said", zip.done(), 5);
        due("a byte behind the stream",
            new Zip().part(new Zip.Part("s", new byte[0]).stream(new byte[] {3, 0, 0})).done(), 5);
    }

    private static void tooMuch() {
        Zip zip = new Zip();
        for (int k = 0; k < 16; k++) {
            zip.part("p" + k, "");
        }
        due("16 parts", zip.done(), 0);
        zip.part("q", "");
        due("17 parts", zip.done(), 6);
        zip.parts.get(16).sum = 1;
        due("17th with another sum", zip.done(), 5);
        zip.parts.get(16).name = Kit.bytes("p3");
        due("17th with a name that is there", zip.done(), 4);
        due("4000", new Zip().part(new Zip.Part("a", Kit.filled("abc", 4000))).done(), 0);
        due("4001", new Zip().part(new Zip.Part("a", Kit.filled("abc", 4001))).done(), 6);
        due("4001 pressed are no stream", new Zip().fewest("a", Kit.filled("abc", 4001)).done(), 5);
        byte[] most = Kit.filled("abc", 4000);
        Zip three = new Zip().fewest("a", most).fewest("b", most).fewest("c", most);
        due("12000", three.done(), 0);
        due("12000 and none", three.part("e", "").done(), 0);
        due("12001", three.part("d", "x").done(), 6);
    }

    private static void inTheirOrder() {
        // The first entry's fault counts, though the second one's has a lower number.
        Zip zip = two();
        zip.parts.get(0).sum ^= 1;
        zip.parts.get(1).name = Kit.bytes("A");
        due("5 before 4", zip.done(), 5);
        zip.parts.get(0).sum ^= 1;
        due("4 alone", zip.done(), 4);
        zip.parts.get(1).sum ^= 1;
        due("4 before 5 of the same", zip.done(), 4);
    }

    private static void rereading() {
        Run book = new Book();
        Kit.dueThrow("no file", Kit.INDEX, () -> book.reread(0, 0));
        Kit.add(book, "a", "plain");
        Kit.add(book, "b", Kit.filled("abc", 60));
        byte[] file = Kit.written(book);
        Kit.dueThrow("no byte", Kit.INDEX, () -> book.reread(file.length, 0));
        Kit.dueThrow("no byte, first", Kit.INDEX, () -> book.reread(-1, 256));
        Kit.dueThrow("x 256", Kit.ARGUMENT, () -> book.reread(0, 256));
        Kit.dueThrow("x -1", Kit.ARGUMENT, () -> book.reread(file.length - 1, -1));
        Kit.remove(book, "a");
        Kit.type(book, Kit.bytes("c"));
        Kit.due("a fault", book.reread(0, 1), 3);
        Kit.dueParts("nothing changed", book, "b");
        Kit.due("read again", book.reread(7, 0), 0);
        Kit.dueParts("as written", book, "a", "b");
        Kit.due("plain", Kit.contentOf(book, 0), Kit.bytes("plain"));
        Kit.due("the tape stays", book.add(1), 3);
        Kit.due("the last byte", book.reread(file.length - 1, 255), 1);
        for (int k = 0; k < file.length; k++) {
            Kit.due("file's byte " + k, book.file(k), file[k] & 255);
        }
    }

    private static Run threeWritten() {
        Run book = new Book();
        Kit.add(book, "a", "");
        Kit.add(book, "b/c", Kit.filled("hello ", 50));
        Kit.add(book, "root", "plain");
        book.write();
        return book;
    }

    private static void everyByte() {
        byte[] file = Kit.written(threeWritten());
        for (int k = 0; k < file.length; k++) {
            Run book = threeWritten();
            for (int x : new int[] {1, 2, 8, 32, 128, 255}) {
                FileOracle oracle = new FileOracle(with(file, k, file[k] ^ x));
                Kit.due("byte " + k + " changed by " + x, book.reread(k, x), oracle.fault);
                if (oracle.fault == 0) {
                    dueSame("byte " + k + " changed by " + x, book, oracle);
                }
            }
        }
    }

    private static void mutated() {
        Random random = new Random(10);
        int[] met = new int[7];
        for (int round = 0; round < 6000; round++) {
            Zip zip = new Zip();
            for (int k = random.nextInt(4); k >= 0; k--) {
                Zip.Part part = new Zip.Part("" + (char) ('a' + random.nextInt(9)), Kit.filled("xy", random.nextInt(60)));
                if (random.nextBoolean()) {
                    part.stream(PressOracle.press(part.stored));
                }
                zip.part(part);
                switch (random.nextInt(12)) {
                    case 0: part.sum++; break;
                    case 1: part.said++; break;
                    case 2: part.size += random.nextInt(3) - 1; break;
                    case 3: part.name = Kit.bytes(random.nextBoolean() ? "a/" : "a"); break;
                    case 4: part.method = 8 - part.method; break;
                    default: break;
                }
            }
            byte[] file = zip.done();
            if (random.nextInt(4) == 0) {
                file[random.nextInt(file.length)] ^= (byte) (1 << random.nextInt(8));
            }
            FileOracle oracle = new FileOracle(file);
            met[oracle.fault]++;
            Run book = new Book();
            Kit.due("round " + round, Kit.read(book, file), oracle.fault);
            if (oracle.fault == 0) {
                dueSame("round " + round, book, oracle);
            }
        }
        for (int which = 0; which < 6; which++) {
            Kit.due("fault " + which + " was met", met[which] > 0, true);
        }
    }
}
