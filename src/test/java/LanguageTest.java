import java.io.IOException;
import java.nio.file.Files;
import java.nio.file.Path;
import java.util.Arrays;
import java.util.List;
import java.util.TreeSet;
import java.util.regex.Matcher;
import java.util.regex.Pattern;

/** LANGUAGE.md's rules, as far as they can be seen in the program's text. */
public final class LanguageTest {
    private static final Path PROGRAM = Path.of("src/main/java/PackageBook.java");
    private static final int MOST_LINES = 60;

    public static void main(String[] args) throws IOException {
        String text = Files.readString(PROGRAM);
        // Without what is no code: comments, and what stands between quotes.
        String code = text.replaceAll("(?s)/\\*.*?\\*/", "").replaceAll("//[^\n]*", "").replaceAll("\"[^\"\n]*\"", "\"\"")
            .replaceAll("'[^'\n]'", "0");
        noSuch(code, "rule 1, no package", "\\bpackage\\b");
        noSuch(code, "rules 2 and 10, no lambda, method reference or pattern", "->|::");
        noSuch(code, "rule 3, no other types", "\\b(double|float|Object|Map|Set|Long|var|sealed)\\b");
        noSuch(code, "rule 4, only this library", "\\bimport (?!java\\.util\\.Arrays;)");
        noSuch(code, "rule 5, static fields are final", "\\bstatic (?!final\\b|class\\b)[\\w\\[\\]]+ \\w+( =|;)");
        noSuch(code, "rule 5, no static block", "\\bstatic \\{");
        noSuch(code, "rules 6 and 13, none of these words",
            "\\b(finally|synchronized|assert|volatile|native|transient|hashCode|equals|toString|currentTimeMillis|nanoTime|Thread)\\b");
        noSuch(code, "rule 12, objects are made with the object alone", "\\breturn new\\b|\\bclone\\(");
        only(code, "rule 4, the library", "\\b(?:Arrays|Math|System|Integer|Long|String|List)\\.\\w+",
            "Arrays.fill", "Arrays.copyOf", "Arrays.copyOfRange", "Math.min", "Math.max", "Math.abs", "System.arraycopy");
        only(code, "rule 6, the exceptions that the face names", "throw new \\w+", "throw new IllegalArgumentException",
            "throw new IndexOutOfBoundsException", "throw new UnsupportedOperationException");
        Kit.due("rule 6, with a written text or none", count(code, "\\bthrow\\b"), count(code, "throw new \\w+\\((\"\")?\\);"));
        Kit.due("rule 3, letters of 0 to 255", text.chars().allMatch(c -> c < 256), true);
        Kit.due("rule 9, no loop without a bound", count(code, "for \\(;;\\)|while \\(true\\)"), 0);
        methodsAreShort(code);
        Kit.end();
    }

    private static int count(String code, String pattern) {
        Matcher matcher = Pattern.compile(pattern).matcher(code);
        int many = 0;
        while (matcher.find()) {
            many++;
        }
        return many;
    }

    private static void noSuch(String code, String rule, String pattern) {
        Matcher matcher = Pattern.compile(pattern).matcher(code);
        while (matcher.find()) {
            Kit.due(rule + ": " + matcher.group(), true, false);
        }
    }

    private static void only(String code, String rule, String pattern, String... allowed) {
        TreeSet<String> met = new TreeSet<>();
        Matcher matcher = Pattern.compile(pattern).matcher(code);
        while (matcher.find()) {
            met.add(matcher.group());
        }
        met.removeAll(Arrays.asList(allowed));
        Kit.due(rule, met.toString(), "[]");
    }

    /** A method begins with its head and ends with a brace that stands as far in as that. */
    private static void methodsAreShort(String code) {
        List<String> lines = Arrays.asList(code.split("\n"));
        int methods = 0;
        for (int k = 0; k < lines.size(); k++) {
            Matcher head = Pattern.compile("^( {4}| {8})(?!private static final class|public final class)\\S.*\\) ?(throws [\\w, ]+)?\\{$")
                .matcher(lines.get(k));
            if (head.find() && !lines.get(k).matches(" +(if|for|while|switch|\\}).*")) {
                int size = lines.subList(k, lines.size()).indexOf(head.group(1) + "}");
                Kit.due("rule 11, a short method: " + lines.get(k).trim(), size >= 0 && size <= MOST_LINES, true);
                methods++;
            }
        }
        Kit.due("methods were looked at", methods > 80, true);
    }
}
