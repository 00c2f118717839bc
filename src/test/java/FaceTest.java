import java.lang.reflect.Constructor;
import java.lang.reflect.Field;
import java.lang.reflect.Method;
import java.lang.reflect.Modifier;
import java.util.Arrays;
import java.util.TreeSet;

/** The public face, and LANGUAGE.md's rules 1, 5 and 11 as far as they can be seen in the compiled classes. */
public final class FaceTest {
    public static void main(String[] args) {
        TreeSet<String> want = new TreeSet<>(Arrays.asList(
            "int type(long,int) IAE UOE", "int again(int) IAE UOE", "int add(int) IAE UOE", "boolean remove()",
            "int about(int,int) IOOBE", "int byteOf(int,int) IOOBE", "int write()", "int file(int) IOOBE", "int read()",
            "int reread(int,int) IOOBE IAE", "int press() UOE", "int expand()", "int sum()", "int out(int) IOOBE",
            "int check()", "int fault(int,int) IOOBE", "int relations(int) IOOBE", "int relation(int,int) IOOBE"));
        TreeSet<String> got = new TreeSet<>();
        TreeSet<String> names = new TreeSet<>();
        for (Method m : PackageBook.class.getDeclaredMethods()) {
            if (!Modifier.isPrivate(m.getModifiers())) {
                got.add(shapeOf(m));
                names.add(m.getName());
            }
        }
        Kit.due("the face " + got, got.equals(want), true);
        Kit.due("final", Modifier.isFinal(PackageBook.class.getModifiers()), true);
        Constructor<?>[] made = PackageBook.class.getDeclaredConstructors();
        Kit.due("one constructor", made.length, 1);
        Kit.due("without arguments", made[0].getParameterCount(), 0);
        fieldsOf(PackageBook.class, true);
        Class<?>[] inside = PackageBook.class.getDeclaredClasses();
        // "some twelve" and "some twenty".
        Kit.due("classes", inside.length <= 14, true);
        for (Class<?> c : inside) {
            Kit.due(c + " is static", Modifier.isStatic(c.getModifiers()), true);
            fieldsOf(c, false);
            for (Method m : c.getDeclaredMethods()) {
                Kit.due(m + " has few parameters", m.getParameterCount() <= 7, true);
            }
        }
        for (Method m : PackageBook.class.getDeclaredMethods()) {
            Kit.due(m + " is public or has another name",
                Modifier.isPublic(m.getModifiers()) || !names.contains(m.getName()), true);
        }
        Kit.end();
    }

    private static void fieldsOf(Class<?> c, boolean privateOnly) {
        int many = 0;
        for (Field f : c.getDeclaredFields()) {
            boolean isStatic = Modifier.isStatic(f.getModifiers());
            Kit.due(f + " is final if static", !isStatic || Modifier.isFinal(f.getModifiers()), true);
            Kit.due(f + " is private", !privateOnly || Modifier.isPrivate(f.getModifiers()), true);
            many += isStatic ? 0 : 1;
        }
        Kit.due(c + " has few fields", many <= 24, true);
    }

    private static String shapeOf(Method m) {
        StringBuilder text = new StringBuilder(Modifier.isPublic(m.getModifiers()) ? "" : "not public ");
        text.append(m.getReturnType().getName()).append(' ').append(m.getName()).append('(');
        for (int k = 0; k < m.getParameterCount(); k++) {
            text.append(k == 0 ? "" : ",").append(m.getParameterTypes()[k].getName());
        }
        text.append(')');
        for (Class<?> e : m.getExceptionTypes()) {
            text.append(' ').append(e.getSimpleName().replaceAll("[a-z]", ""));
        }
        return text.toString();
    }
}
