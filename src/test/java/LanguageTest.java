import java.io.IOException;
import java.lang.reflect.Executable;
import java.lang.reflect.Field;
import java.lang.reflect.Modifier;
import java.nio.file.Files;
import java.nio.file.Path;
import java.util.ArrayDeque;
import java.util.ArrayList;
import java.util.Deque;
import java.util.List;
import java.util.regex.Matcher;
import java.util.regex.Pattern;

/** What of LANGUAGE.md can be read off the class without knowing what it does. Run from the project's directory. */
public final class LanguageTest {
    private static final String FILE = "src/main/java/LedgerMachine.java";
    private static final int CLASSES_MOST = 12;
    private static final int FIELDS_MOST = 20;
    private static final int PARAMETERS_MOST = 7;
    private static final int LINES_MOST = 60;

    /** Rules 2, 6, 12 and 13; try and catch are allowed there, but a class that tests first needs none. */
    private static final String[] NOT_USED = {
        "->", "::", "\\bpackage\\b", "\\btry\\b", "\\bcatch\\b", "\\bfinally\\b", "\\bsynchronized\\b", "\\bassert\\b",
        "\\bextends\\b", "\\binstanceof\\b", "Exact\\b", "\\bequals\\b", "\\bhashCode\\b", "\\btoString\\b",
        "\\bThread\\b", "\\bRandom\\b", "\\bstatic\\s*\\{", "\\bfloat\\b", "\\bdouble\\b"};

    public static void main(String[] args) throws IOException {
        String source = withoutTexts(Files.readString(Path.of(FILE)));
        words(source);
        library(source);
        exceptions(source);
        methodsAreShort(source);
        List<Class<?>> classes = new ArrayList<>(List.of(LedgerMachine.class.getDeclaredClasses()));
        classes.add(LedgerMachine.class);
        Check.same("at most twelve classes", classes.size() <= CLASSES_MOST, true);
        for (Class<?> one : classes) {
            fields(one);
            parameters(one);
        }
        Check.end();
    }

    private static String withoutTexts(String source) {
        return source.replaceAll("(?s)/\\*.*?\\*/", "").replaceAll("//.*", "").replaceAll("\"[^\"\n]*\"", "\"\"");
    }

    private static List<String> found(String pattern, String source) {
        List<String> all = new ArrayList<>();
        Matcher matcher = Pattern.compile(pattern).matcher(source);
        while (matcher.find()) {
            all.add(matcher.group());
        }
        return all;
    }

    private static void words(String source) {
        for (String word : NOT_USED) {
            Check.same("uses of " + word, found(word, source).size(), 0);
        }
    }

    /** Rule 4. */
    private static void library(String source) {
        allOf("import", found("\\bimport [^;]*;", source), List.of("import java.util.Arrays;"));
        List<String> calls = found("\\b(Arrays|System|Math|Integer|Long|String)\\.\\w+", source);
        allOf("library", calls, List.of(
                "Arrays.copyOf", "Arrays.copyOfRange", "Arrays.fill", "System.arraycopy", "Math.min", "Math.max"));
    }

    /** Rule 6. */
    private static void exceptions(String source) {
        allOf("throw", found("\\bthrow\\b[^(]*\\(", source), List.of(
                "throw new IndexOutOfBoundsException(",
                "throw new IllegalArgumentException(",
                "throw new IllegalStateException("));
    }

    private static void allOf(String what, List<String> found, List<String> allowed) {
        for (String one : found) {
            if (!allowed.contains(one)) {
                Check.tell(what + ": " + one);
            }
        }
    }

    /** Rule 11: from the line that opens a body to the one that closes it. */
    private static void methodsAreShort(String source) {
        String[] lines = source.split("\n");
        Deque<Integer> open = new ArrayDeque<>();
        for (int i = 0; i < lines.length; i++) {
            for (char c : lines[i].toCharArray()) {
                if (c == '{') {
                    open.push(i);
                } else if (c == '}') {
                    int first = open.pop();
                    boolean isShort = i - first < LINES_MOST || lines[first].contains(" class ");
                    Check.same("short enough: " + lines[first].trim(), isShort, true);
                }
            }
        }
    }

    /** Rules 5 and 11. */
    private static void fields(Class<?> one) {
        int count = 0;
        for (Field field : one.getDeclaredFields()) {
            if (!Modifier.isStatic(field.getModifiers())) {
                count++;
            } else {
                Check.same(field + " is final", Modifier.isFinal(field.getModifiers()), true);
            }
        }
        Check.same("at most twenty fields: " + one, count <= FIELDS_MOST, true);
    }

    /** Rule 11. */
    private static void parameters(Class<?> one) {
        List<Executable> all = new ArrayList<>(List.of(one.getDeclaredMethods()));
        all.addAll(List.of(one.getDeclaredConstructors()));
        for (Executable each : all) {
            boolean isFew = each.getParameterCount() <= PARAMETERS_MOST;
            Check.same("at most seven parameters: " + each, isFew || each.isSynthetic(), true);
        }
    }
}
