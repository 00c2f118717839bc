import java.lang.reflect.Array;
import java.lang.reflect.Field;
import java.lang.reflect.Modifier;
import java.util.ArrayDeque;
import java.util.Collections;
import java.util.IdentityHashMap;
import java.util.Set;

/**
 * All calls of one run live in one room: some 600,000 objects and arrays, 7.3 million fields and elements in all. What an
 * object has when it is made is little of that, and its calls make nothing more that it keeps.
 */
public final class RoomTest {
    private static final int MOST_OBJECTS = 600;
    private static final int MOST_ELEMENTS = 100_000;

    private int objects;
    private int elements;

    public static void main(String[] args) throws IllegalAccessException {
        PackageBook book = new PackageBook();
        RoomTest made = new RoomTest();
        made.count(book);
        Kit.due("few objects: " + made.objects, made.objects <= MOST_OBJECTS, true);
        Kit.due("few elements: " + made.elements, made.elements <= MOST_ELEMENTS, true);
        // Each call some times, so that all that it could keep is there.
        for (int turn = 0; turn < 20; turn++) {
            book.type('a' + turn % 16, 1);
            book.type(0x737265722EL, 5);
            book.again(turn % 7);
            book.add(1);
            book.about(3, 0);
            book.byteOf(0, 0);
            book.write();
            book.file(0);
            book.reread(0, 0);
            book.read();
            book.type(turn, 8);
            book.press();
            book.out(0);
            book.type(3, 2);
            book.expand();
            book.sum();
            book.check();
            book.fault(0, 0);
            book.relations(0);
            book.remove();
        }
        RoomTest used = new RoomTest();
        used.count(book);
        Kit.due("no more objects", used.objects <= made.objects, true);
        Kit.due("no more elements", used.elements <= made.elements, true);
        Kit.end();
    }

    private void count(Object first) throws IllegalAccessException {
        Set<Object> seen = Collections.newSetFromMap(new IdentityHashMap<>());
        ArrayDeque<Object> open = new ArrayDeque<>();
        open.add(first);
        seen.add(first);
        while (!open.isEmpty()) {
            Object one = open.remove();
            objects++;
            if (one.getClass().isArray()) {
                elements += Array.getLength(one);
            } else {
                for (Field field : one.getClass().getDeclaredFields()) {
                    if (!Modifier.isStatic(field.getModifiers())) {
                        elements++;
                        field.setAccessible(true);
                        Object inside = field.getType().isPrimitive() ? null : field.get(one);
                        if (inside != null && seen.add(inside)) {
                            open.add(inside);
                        }
                    }
                }
            }
        }
    }
}
