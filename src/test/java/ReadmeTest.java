import java.io.IOException;
import java.lang.reflect.Method;
import java.lang.reflect.Modifier;
import java.nio.file.Files;
import java.nio.file.Path;
import java.util.ArrayList;
import java.util.LinkedHashMap;
import java.util.List;
import java.util.Map;
import java.util.Set;
import java.util.TreeSet;
import java.util.regex.Matcher;
import java.util.regex.Pattern;

/** README.md tells each call in the document's words, and its example answers as it says. Runs in the project's folder. */
public final class ReadmeTest {
    private static final Pattern PROMISE = Pattern.compile("(?m)^## Promise (\\d+): .*\\n\\n`([^`]+)`: (.+)$");
    private static final Pattern ROW = Pattern.compile("(?m)^\\| `([^`|]+\\([^`|]*\\))` \\| ([^|]+) \\| ([^|]+) \\|$");
    private static final Pattern EXAMPLE = Pattern.compile("(?m)^x\\.(.+\\));\\s+// (-?\\d+)");
    private static final String NOTHING = "-";

    private static String readme;

    private ReadmeTest() {
    }

    public static void main(String[] args) throws IOException {
        readme = Files.readString(Path.of("README.md"));
        Map<String, String> promises = promises(Files.readString(Path.of("../shared/DOC.md")));
        Map<String, String> rows = rows();
        Due.due("promises of the document", promises.size(), 28);
        Due.due("calls that README.md tells", rows.size(), 28);
        for (String call : promises.keySet()) {
            Due.holds("README.md tells " + call + " as the document does: " + promises.get(call),
                    promises.get(call).equals(rows.get(call)));
        }
        eachMethodIsTold(rows.keySet());
        numbersOfConstants();
        example();
        testsAreNamed();
        Due.end();
    }

    private static Map<String, String> promises(String document) {
        Map<String, String> all = new LinkedHashMap<>();
        Matcher promise = PROMISE.matcher(document);
        while (promise.find()) {
            all.put(promise.group(2), promise.group(3).trim());
        }
        return all;
    }

    /** By call, what it answers and then what it refuses. */
    private static Map<String, String> rows() {
        Map<String, String> all = new LinkedHashMap<>();
        Matcher row = ROW.matcher(readme);
        while (row.find()) {
            String refuses = row.group(3).equals(NOTHING) ? "" : " " + row.group(3);
            Due.holds("one row for " + row.group(1), all.put(row.group(1), row.group(2) + refuses) == null);
        }
        return all;
    }

    private static void eachMethodIsTold(Set<String> calls) {
        Set<String> told = new TreeSet<>();
        for (String call : calls) {
            told.add(call.replaceAll("(\\w+) \\w+(?=[,)])", "$1").replace(", ", ","));
        }
        Set<String> made = new TreeSet<>(Set.of("QuietLines()"));
        for (Method method : QuietLines.class.getDeclaredMethods()) {
            if (Modifier.isPublic(method.getModifiers())) {
                List<String> types = new ArrayList<>();
                for (Class<?> type : method.getParameterTypes()) {
                    types.add(type.getName());
                }
                made.add(method.getReturnType().getName() + " " + method.getName() + "(" + String.join(",", types) + ")");
            }
        }
        Due.holds("README.md tells " + told + ", the class has " + made, told.equals(made));
    }

    private static void numbersOfConstants() {
        constant("UNKNOWN", QuietLines.UNKNOWN);
        constant("OUTSIDE", QuietLines.OUTSIDE);
        constant("STATE", QuietLines.STATE);
        constant("FULL", QuietLines.FULL);
        constant("NONE", QuietLines.NONE);
    }

    private static void constant(String name, int number) {
        Due.holds("README.md tells " + name, readme.contains("| `" + name + "` | " + number + " |"));
    }

    private static void example() {
        QuietLines x = new QuietLines();
        Matcher letters = Pattern.compile("\"(Q\\w+)\"\\.toCharArray").matcher(readme);
        Due.holds("README.md has an example", letters.find());
        Due.write(x, letters.group(1));
        Set<String> used = new TreeSet<>(Set.of("write"));
        Matcher call = EXAMPLE.matcher(readme);
        while (call.find()) {
            Due.due("x." + call.group(1), answer(x, call.group(1)), Long.parseLong(call.group(2)));
            used.add(call.group(1).replaceAll("\\(.*", ""));
        }
        Due.due("calls that the example uses: " + used, used.size(), 27);
    }

    private static long answer(QuietLines x, String call) {
        String name = call.substring(0, call.indexOf('('));
        String[] told = call.substring(call.indexOf('(') + 1, call.length() - 1).split(", ");
        for (Method method : QuietLines.class.getDeclaredMethods()) {
            if (Modifier.isPublic(method.getModifiers()) && method.getName().equals(name)) {
                Class<?>[] types = method.getParameterTypes();
                Object[] values = new Object[types.length];
                for (int i = 0; i < types.length; i++) {
                    values[i] = value(types[i], told[i]);
                }
                return invoked(x, method, values);
            }
        }
        throw new IllegalArgumentException("no call " + name);
    }

    private static Object value(Class<?> type, String told) {
        if (type == boolean.class) {
            return Boolean.valueOf(told);
        }
        if (type == long.class) {
            return Long.valueOf(told.replace("L", ""));
        }
        return Integer.valueOf(told);
    }

    private static long invoked(QuietLines x, Method method, Object[] values) {
        try {
            return ((Number) method.invoke(x, values)).longValue();
        } catch (ReflectiveOperationException failed) {
            throw new IllegalStateException(failed);
        }
    }

    private static void testsAreNamed() throws IOException {
        try (var files = Files.newDirectoryStream(Path.of("src/test/java"), "*Test.java")) {
            for (Path file : files) {
                String name = file.getFileName().toString().replace(".java", "");
                Due.holds("README.md names " + name, readme.contains("`" + name + "`"));
            }
        }
    }
}
