import java.io.IOException;
import java.lang.reflect.InvocationTargetException;
import java.lang.reflect.Method;
import java.lang.reflect.Modifier;
import java.nio.file.Files;
import java.nio.file.Path;
import java.util.regex.Matcher;
import java.util.regex.Pattern;

/** README.md tells each method of the face, and the calls in it answer what it says. */
public final class ReadmeTest {
    private static final Pattern CALL = Pattern.compile("book\\.(\\w+)\\((.*?)\\); +// (\\S+):|\ntype\\(book, \"(.*)\"\\);");
    private static final int LEAST_CALLS = 40;

    public static void main(String[] args) throws IOException, IllegalAccessException {
        String readme = Files.readString(Path.of("README.md"));
        for (Method method : PackageBook.class.getDeclaredMethods()) {
            if (Modifier.isPublic(method.getModifiers())) {
                String shape = "`" + method.getReturnType() + " " + method.getName() + "(";
                Kit.due("README.md tells " + shape, readme.contains(shape), true);
                Kit.due("README.md uses " + method.getName(), readme.contains("book." + method.getName() + "("), true);
            }
        }
        Kit.due("README.md says how to run the tests", readme.contains("\n    .ci/run\n"), true);
        Run book = new Run();
        Matcher call = CALL.matcher(readme);
        while (call.find()) {
            if (call.group(4) != null) {
                book.tape(call.group(4));
            } else {
                Kit.due(call.group(), answerOf(book, call.group(1), call.group(2)), call.group(3));
            }
        }
        Kit.due("many calls", book.left() <= 512 - LEAST_CALLS, true);
        Kit.end();
    }

    private static String answerOf(Face book, String name, String arguments) throws IllegalAccessException {
        String[] texts = arguments.isEmpty() ? new String[0] : arguments.split(", ");
        for (Method method : Face.class.getDeclaredMethods()) {
            if (method.getName().equals(name) && method.getParameterCount() == texts.length) {
                Object[] values = new Object[texts.length];
                for (int k = 0; k < texts.length; k++) {
                    long value = Long.decode(texts[k].replace("L", ""));
                    values[k] = method.getParameterTypes()[k] == int.class ? (Object) (int) value : (Object) value;
                }
                try {
                    return String.valueOf(method.invoke(book, values));
                } catch (InvocationTargetException e) {
                    return e.getCause().getClass().getSimpleName();
                }
            }
        }
        return "there is no such method";
    }
}
