/** Promises 4, 5, 6, 7. */
public final class PartsTest {
    public static void main(String[] args) {
        names();
        order();
        instead();
        limits();
        removing();
        questions();
        Kit.end();
    }

    private static void names() {
        Run book = new Run();
        String[] wrong = {
            "", "/", "a/", "/a", "a//b", ".", "..", "a/.", "./a", "a/../b", "..", "A", "a-b", "a b", "a\u00e1", "a\u0000",
            "`", "{", ":", "abcdefghijklmnopqrstuvwxy"
        };
        for (String name : wrong) {
            Kit.dueThrow("name '" + name + "'", Kit.ARGUMENT, () -> Kit.add(book, name, ""));
            Kit.due("tape taken", book.again(0), 0);
        }
        Kit.due("none of them", book.about(0, 0), 0);
        String[] right = {"a", "z", "0", "9", "_", "...", ".a", "a.", "a/...", "..a/b..", "abcdefghijklmnopqrstuvwx", "a/b/c/d"};
        for (int k = 0; k < right.length; k++) {
            Kit.due("name " + right[k], Kit.add(book, right[k], ""), k + 1);
        }
        Kit.type(book, Kit.bytes("abc"));
        Kit.dueThrow("negative", Kit.ARGUMENT, () -> book.add(-1));
        Kit.due("taken", book.again(0), 0);
        Kit.type(book, Kit.bytes("abc"));
        Kit.dueThrow("too many", Kit.ARGUMENT, () -> book.add(4));
        Kit.type(book, Kit.bytes("abc"));
        Kit.dueThrow("highest", Kit.ARGUMENT, () -> book.add(Integer.MAX_VALUE));
        Kit.due("left alone", book.about(0, 0), right.length);
    }

    private static void order() {
        Run book = new Run();
        for (String name : new String[] {"b", "a/b", "ab", "a", "_", "a.b", "0", "a0", "..."}) {
            Kit.add(book, name, "<" + name + ">");
        }
        String[] sorted = {"...", "0", "_", "a", "a.b", "a/b", "a0", "ab", "b"};
        Kit.dueParts("order", book, sorted);
        for (int i = 0; i < sorted.length; i++) {
            Kit.due("content " + i, Kit.contentOf(book, i), Kit.bytes("<" + sorted[i] + ">"));
        }
    }

    private static void instead() {
        Run book = new Run();
        Kit.add(book, "a", "one");
        Kit.add(book, "b", "two");
        Kit.add(book, "c", "three");
        Kit.due("instead", Kit.add(book, "b", "much longer"), 3);
        Kit.due("in all", book.about(3, 99), 19);
        Kit.due("a", Kit.contentOf(book, 0), Kit.bytes("one"));
        Kit.due("b", Kit.contentOf(book, 1), Kit.bytes("much longer"));
        Kit.due("c", Kit.contentOf(book, 2), Kit.bytes("three"));
        Kit.due("empty", Kit.add(book, "b", ""), 3);
        Kit.due("in all", book.about(3, 99), 8);
        Kit.due("c stays", Kit.contentOf(book, 2), Kit.bytes("three"));
    }

    private static void limits() {
        Run book = new Book();
        byte[] most = Kit.filled("xyz", 4000);
        Kit.dueThrow("4001", Kit.UNSUPPORTED, () -> Kit.add(book, "a", Kit.filled("x", 4001)));
        Kit.due("tape taken", book.again(0), 0);
        Kit.dueThrow("the name first", Kit.ARGUMENT, () -> Kit.add(book, "A", Kit.filled("x", 4001)));
        Kit.due("4000", Kit.add(book, "a", most), 1);
        Kit.due("8000", Kit.add(book, "b", most), 2);
        Kit.due("11999", Kit.add(book, "c", Kit.filled("q", 3999)), 3);
        Kit.dueThrow("12001", Kit.UNSUPPORTED, () -> Kit.add(book, "d", "zz"));
        Kit.due("12000", Kit.add(book, "d", "z"), 4);
        Kit.dueThrow("12001 again", Kit.UNSUPPORTED, () -> Kit.add(book, "d", "zz"));
        Kit.dueThrow("4001 instead", Kit.UNSUPPORTED, () -> Kit.add(book, "a", Kit.filled("x", 4001)));
        Kit.due("instead", Kit.add(book, "a", Kit.filled("new", 4000)), 4);
        Kit.due("it is new", Kit.contentOf(book, 0), Kit.filled("new", 4000));
        Kit.due("in all", book.about(3, 0), 12000);
        Kit.due("no bytes", Kit.add(book, "e", ""), 5);
        for (int k = 6; k <= 16; k++) {
            Kit.due("part " + k, Kit.add(book, "p" + k, ""), k);
        }
        Kit.dueThrow("part 17", Kit.UNSUPPORTED, () -> Kit.add(book, "q", ""));
        Kit.due("one of the 16", Kit.add(book, "p7", ""), 16);
        Kit.due("d", Kit.contentOf(book, 3), Kit.bytes("z"));
        Kit.due("the 12000 are written", book.write() > 0, true);
        Kit.due("and can be read", book.reread(0, 0), 0);
        Kit.due("c", Kit.contentOf(book, 2), Kit.filled("q", 3999));
    }

    private static void removing() {
        Run book = new Run();
        Kit.due("empty tape", book.remove(), false);
        Kit.add(book, "a", "1");
        Kit.add(book, "b", "22");
        Kit.add(book, "c", "333");
        Kit.due("no name", Kit.remove(book, "B"), false);
        Kit.due("longer", Kit.remove(book, "b1"), false);
        Kit.due("much longer", Kit.remove(book, "bbbbbbbbbbbbbbbbbbbbbbbbbbbbbbb"), false);
        Kit.due("there", Kit.remove(book, "b"), true);
        Kit.due("taken", book.again(0), 0);
        Kit.due("gone", Kit.remove(book, "b"), false);
        Kit.dueParts("left", book, "a", "c");
        Kit.due("in all", book.about(3, 0), 4);
        Kit.due("c", Kit.contentOf(book, 1), Kit.bytes("333"));
        Kit.due("first", Kit.remove(book, "a"), true);
        Kit.due("c still", Kit.contentOf(book, 0), Kit.bytes("333"));
        Kit.due("last", Kit.remove(book, "c"), true);
        Kit.due("none", book.about(0, 0), 0);
        Kit.due("no bytes", book.about(3, 0), 0);
    }

    private static void questions() {
        Run book = new Run();
        Kit.add(book, "ab", "\u00ff\u0000\u0080");
        Kit.due("parts, any i", book.about(0, -1), 1);
        Kit.due("in all, any i", book.about(3, Integer.MAX_VALUE), 3);
        Kit.due("name", book.about(1, 0), 2);
        Kit.due("bytes", book.about(2, 0), 3);
        for (int what : new int[] {1, 2}) {
            Kit.dueThrow("part 1", Kit.INDEX, () -> book.about(what, 1));
            Kit.dueThrow("part -1", Kit.INDEX, () -> book.about(what, -1));
        }
        Kit.dueThrow("what -1", Kit.INDEX, () -> book.about(-1, 0));
        Kit.dueThrow("what 4", Kit.INDEX, () -> book.about(4, 0));
        int[] want = {'a', 'b', 255, 0, 128};
        for (int k = 0; k < want.length; k++) {
            Kit.due("byte " + k, book.byteOf(0, k), want[k]);
        }
        Kit.dueThrow("byte 5", Kit.INDEX, () -> book.byteOf(0, 5));
        Kit.dueThrow("byte -1", Kit.INDEX, () -> book.byteOf(0, -1));
        Kit.dueThrow("byte of part 1", Kit.INDEX, () -> book.byteOf(1, 0));
        Kit.dueThrow("byte of part -1", Kit.INDEX, () -> book.byteOf(-1, 0));
    }
}
