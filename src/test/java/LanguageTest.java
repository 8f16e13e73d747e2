import java.io.IOException;
import java.lang.reflect.Field;
import java.lang.reflect.Method;
import java.lang.reflect.Modifier;
import java.nio.file.Files;
import java.nio.file.Path;
import java.util.ArrayList;
import java.util.List;
import java.util.Set;
import java.util.TreeSet;
import java.util.regex.Matcher;
import java.util.regex.Pattern;

/** The rules of LANGUAGE.md that can be seen in the text of the class or in what was compiled of it. */
public final class LanguageTest {
    private static final Path SOURCE = Path.of("src/main/java/RegionHeap.java");
    /** Rules 2, 4, 6, 12 and 13: the class needs no package, library class or exception, so it names none. */
    private static final Pattern RULED_OUT = Pattern.compile("\\b(package|import|throws?|try|catch|finally|synchronized"
        + "|assert|volatile|transient|native|strictfp|var|instanceof|equals|hashCode|toString|Object|System|Thread"
        + "|Random|java|javax)\\b|static \\{|->|::|@");
    private static final Pattern MATH = Pattern.compile("\\bMath\\.(\\w+)");
    private static final Set<String> MATH_IN_USE = Set.of("min");
    private static final int MOST_PARAMETERS = 7;
    private static final int MOST_LINES = 60;
    private static final int MOST_CLASSES = 12;
    private static final int MOST_FIELDS = 20;

    public static void main(String[] args) throws IOException {
        String code = withoutComments(Files.readString(SOURCE));
        Checks.due("what the rules leave out", all(RULED_OUT, code, 0).toString(), "[]");
        Checks.due("functions of Math", MATH_IN_USE.containsAll(all(MATH, code, 1)), true);
        lengths(code);
        List<Class<?>> classes = new ArrayList<>(List.of(RegionHeap.class.getDeclaredClasses()));
        classes.add(RegionHeap.class);
        Checks.due("classes at most", classes.size() <= MOST_CLASSES, true);
        for (Class<?> one : classes) {
            members(one);
        }
        Checks.finish();
    }

    private static String withoutComments(String text) {
        return text.replaceAll("(?s)/\\*.*?\\*/", "").replaceAll("//[^\n]*", "");
    }

    private static Set<String> all(Pattern pattern, String code, int group) {
        Set<String> seen = new TreeSet<>();
        Matcher matcher = pattern.matcher(code);
        while (matcher.find()) {
            seen.add(matcher.group(group));
        }
        return seen;
    }

    /** A method begins with a line that ends its parameters with a brace, and ends with a brace as far in. */
    private static void lengths(String code) {
        String[] lines = code.split("\n");
        Pattern head = Pattern.compile("( {4}| {8})(public|private) .*\\) \\{");
        int methods = 0;
        for (int from = 0; from < lines.length; from++) {
            Matcher matcher = head.matcher(lines[from]);
            if (matcher.matches()) {
                methods++;
                int to = from + 1;
                while (to < lines.length && !lines[to].equals(matcher.group(1) + "}")) {
                    to++;
                }
                Checks.due("lines of" + lines[from] + " are at most " + MOST_LINES, to - from < MOST_LINES, true);
            }
        }
        Checks.due("methods are found", methods >= RegionHeap.class.getDeclaredMethods().length, true);
    }

    private static void members(Class<?> one) {
        int fields = 0;
        for (Field field : one.getDeclaredFields()) {
            boolean isStatic = Modifier.isStatic(field.getModifiers());
            fields += isStatic ? 0 : 1;
            boolean constant = Modifier.isFinal(field.getModifiers()) && field.getType() == int.class;
            Checks.due(one.getName() + "." + field.getName() + " is a constant or no static field", !isStatic || constant, true);
        }
        Checks.due("fields of " + one.getName() + " at most", fields <= MOST_FIELDS, true);
        for (Method method : one.getDeclaredMethods()) {
            Checks.due("parameters of " + method.getName() + " at most",
                method.getParameterCount() <= MOST_PARAMETERS, true);
        }
    }
}
