import java.io.IOException;
import java.lang.reflect.Method;
import java.lang.reflect.Modifier;
import java.nio.file.Files;
import java.nio.file.Path;
import java.util.List;
import java.util.regex.MatchResult;
import java.util.regex.Matcher;
import java.util.regex.Pattern;
import java.util.stream.Stream;

/** What README.md says of the class holds, and it leaves no call, constant or test out. */
public final class ReadmeTest {
    private static final Check CHECK = new Check("ReadmeTest");
    private static final Pattern EXAMPLE = Pattern.compile("(?s)```java\n(.*?)```");
    private static final Pattern CALL = Pattern.compile("stove\\.(\\w+)\\((.*?)\\);\\s*// (-?\\d+|[A-Z_]+)\\b.*");
    private static final Pattern ROW = Pattern.compile("(?m)^\\| `(\\w+)\\(([^)]*)\\)` \\| .+ \\|$");
    private static final Pattern CONSTANT = Pattern.compile("(?m)^\\| `([A-Z_]+)` \\| (-\\d) \\| .+ \\|$");

    private ReadmeTest() {
    }

    public static void main(String[] args) throws IOException, ReflectiveOperationException {
        String page = Files.readString(Path.of("README.md"));
        example(page);
        table(page);
        constants(page);
        tests(page);
        CHECK.end();
    }

    /** Every line of the example but blank ones, comments and the making of the object is a call with its answer. */
    private static void example(String page) throws ReflectiveOperationException {
        Matcher example = EXAMPLE.matcher(page);
        CHECK.isTrue("no example", example.find());
        FlameGuards stove = new FlameGuards();
        int calls = 0;
        for (String line : example.group(1).lines().toList()) {
            if (line.isBlank() || line.startsWith("//") || line.equals("FlameGuards stove = new FlameGuards();")) {
                continue;
            }
            Matcher call = CALL.matcher(line);
            boolean isCall = call.matches();
            CHECK.isTrue("not a call with its answer: " + line, isCall);
            if (isCall) {
                CHECK.due(line, answer(stove, call.group(1), call.group(2)), due(call.group(3)));
                calls++;
            }
        }
        CHECK.isTrue("calls in the example: " + calls, calls > 20);
    }

    private static int answer(FlameGuards stove, String name, String words) throws ReflectiveOperationException {
        String[] parts = words.isEmpty() ? new String[0] : words.split(", ");
        Object[] values = new Object[parts.length];
        for (int i = 0; i < parts.length; i++) {
            values[i] = value(parts[i]);
        }
        return (Integer) method(name).invoke(stove, values);
    }

    private static Object value(String word) {
        if (word.startsWith("'")) {
            return word.charAt(1);
        }
        if (word.equals("true") || word.equals("false")) {
            return Boolean.valueOf(word);
        }
        return Integer.valueOf(word);
    }

    private static int due(String word) throws ReflectiveOperationException {
        return Character.isUpperCase(word.charAt(0)) ? FlameGuards.class.getField(word).getInt(null)
                : Integer.parseInt(word);
    }

    private static void table(String page) {
        List<MatchResult> rows = ROW.matcher(page).results().toList();
        for (MatchResult row : rows) {
            Method method = method(row.group(1));
            CHECK.isTrue("there is no call " + row.group(1), method != null);
            int parameters = row.group(2).isEmpty() ? 0 : row.group(2).split(", ").length;
            CHECK.due("the parameters of " + row.group(1), parameters, method == null ? -1 : method.getParameterCount());
        }
        for (Method method : FlameGuards.class.getMethods()) {
            if (method.getDeclaringClass() == FlameGuards.class) {
                String name = method.getName();
                CHECK.due("rows for the call " + name, rows.stream().filter(row -> row.group(1).equals(name)).count(), 1);
            }
        }
    }

    private static void constants(String page) throws ReflectiveOperationException {
        List<MatchResult> rows = CONSTANT.matcher(page).results().toList();
        for (MatchResult row : rows) {
            CHECK.due(row.group(1), due(row.group(1)), Integer.parseInt(row.group(2)));
        }
        CHECK.due("constants", rows.size(), Stream.of(FlameGuards.class.getFields())
                .filter(field -> Modifier.isStatic(field.getModifiers())).count());
    }

    private static void tests(String page) throws IOException {
        CHECK.isTrue("it does not say how to run the tests", page.contains("\n    .ci/run\n"));
        try (Stream<Path> files = Files.list(Path.of("src/test/java"))) {
            for (Path file : files.toList()) {
                String name = file.getFileName().toString().replace(".java", "");
                CHECK.isTrue("it does not name the test " + name, !name.endsWith("Test") || page.contains("\n- `" + name + "`: "));
            }
        }
    }

    private static Method method(String name) {
        for (Method method : FlameGuards.class.getMethods()) {
            if (method.getName().equals(name)) {
                return method;
            }
        }
        return null;
    }
}
