import java.io.IOException;
import java.lang.reflect.Method;
import java.lang.reflect.Modifier;
import java.nio.file.Files;
import java.nio.file.Path;
import java.util.regex.Matcher;
import java.util.regex.Pattern;

/** README.md tells of every call of the face, and the calls of its example answer what stands behind them. */
public final class ReadmeTest {
    private static final Pattern CALL = Pattern.compile("heap\\.(\\w+)\\(([-\\d, ]*)\\); +// (-?\\w+): .*");
    private static final int LEAST_CALLS = 10;

    public static void main(String[] args) throws IOException, ReflectiveOperationException {
        String readme = Files.readString(Path.of("README.md"));
        RegionHeap heap = new RegionHeap();
        int calls = 0;
        for (String line : readme.split("\n")) {
            Matcher call = CALL.matcher(line);
            Checks.due("'" + line + "' is a call with its answer", line.startsWith("heap."), call.matches());
            if (call.matches()) {
                calls++;
                Checks.due(line, answer(heap, call.group(1), call.group(2)), call.group(3));
            }
        }
        Checks.due("the example has calls", calls >= LEAST_CALLS, true);
        for (Method method : RegionHeap.class.getDeclaredMethods()) {
            if (Modifier.isPublic(method.getModifiers())) {
                Checks.due("README.md tells of " + method.getName(), readme.contains("`" + method.getName() + "("), true);
            }
        }
        Checks.finish();
    }

    private static String answer(RegionHeap heap, String name, String numbers) throws ReflectiveOperationException {
        String[] written = numbers.isEmpty() ? new String[0] : numbers.split(", ");
        Class<?>[] types = new Class<?>[written.length];
        Object[] values = new Object[written.length];
        for (int i = 0; i < written.length; i++) {
            types[i] = int.class;
            values[i] = Integer.valueOf(written[i]);
        }
        return RegionHeap.class.getMethod(name, types).invoke(heap, values).toString();
    }
}
