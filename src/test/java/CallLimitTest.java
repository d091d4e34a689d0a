import java.io.IOException;
import java.net.URLClassLoader;
import java.util.List;
import java.util.regex.Matcher;
import java.util.regex.Pattern;

/** The tests must hold as well with a program that answers anything behind an object's 512th call. */
public final class CallLimitTest {
    private static final Check CHECK = new Check("CallLimitTest");
    private static final Pattern PUBLIC_METHOD = Pattern.compile("(?m)^    public int \\w+\\([^)]*\\) \\{$");
    private static final int METHODS = 24;

    private CallLimitTest() {
    }

    public static void main(String[] args) throws IOException, ReflectiveOperationException {
        String source = Room.program();
        CHECK.due("public methods", PUBLIC_METHOD.matcher(source).results().count(), METHODS);
        Room room = new Room("limit", tired(source));
        CHECK.isTrue("the program with a limit: " + room.complaint, room.complaint == null);
        for (String test : List.of("PromiseTest", "ModelRunsTest", "BoundaryTest")) {
            try (URLClassLoader tests = room.tests()) {
                Object failures = tests.loadClass(test).getMethod("failures").invoke(null);
                CHECK.due(test + " with an object that is used up: its failures", (Integer) failures, 0);
            }
        }
        CHECK.end();
    }

    private static String tired(String source) {
        String counted = PUBLIC_METHOD.matcher(source)
                .replaceAll(header -> Matcher.quoteReplacement(header.group()
                        + "\n        calls++;\n        if (calls > 512) {\n            return 1234567;\n        }"));
        return counted.replaceFirst("(?m)^    private boolean hasSnapshot;$", "    private boolean hasSnapshot;\n"
                + "    private int calls;");
    }
}
