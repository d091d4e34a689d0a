import java.io.IOException;
import java.nio.file.Files;
import java.nio.file.Path;
import java.util.ArrayList;
import java.util.List;
import java.util.Set;
import java.util.regex.Matcher;
import java.util.regex.Pattern;

/** The rules of LANGUAGE.md that can be seen from the words of the program. */
public final class LanguageTest {
    private static final Check CHECK = new Check("LanguageTest");
    private static final Set<String> FACE = Set.of("set", "setKind", "plan", "readPlan", "turn", "press", "igniter",
            "light", "unlock", "pass", "type", "clearText", "undo", "keep", "restore", "burner", "staysOpen", "toPress",
            "clearIn", "blownIn", "entry", "event", "count", "setting");
    private static final int LONGEST_METHOD = 60;

    private LanguageTest() {
    }

    public static void main(String[] args) throws IOException {
        String source = Files.readString(Path.of("src/main/java/FlameGuards.java"));
        String code = withoutComments(source);
        forbiddenWords(code);
        CHECK.isTrue("a lambda or a method reference", !code.contains("->") && !code.contains("::"));
        CHECK.isTrue("a sign above 126", source.chars().allMatch(sign -> sign < 127));
        CHECK.isTrue("a static field that is not final",
                !Pattern.compile("static (?!final)[^(\n]*[;=]").matcher(code).find());
        CHECK.isTrue("a static initialiser", !Pattern.compile("static\\s*\\{").matcher(code).find());
        ownMethods(code);
        CHECK.end();
    }

    private static String withoutComments(String source) {
        return source.replaceAll("(?s)/\\*.*?\\*/", "").replaceAll("//[^\n]*", "");
    }

    private static void forbiddenWords(String code) {
        for (String word : List.of("package", "import", "throw", "throws", "try", "catch", "finally", "synchronized",
                "assert", "protected", "volatile", "native", "goto", "random", "equals", "hashCode", "toString",
                "extends", "implements")) {
            CHECK.isTrue("the word " + word, !Pattern.compile("\\b" + word + "\\b").matcher(code).find());
        }
    }

    /** Short methods, and inside the classes none with the name of one of the face. */
    private static void ownMethods(String code) {
        Matcher header = Pattern.compile("(?m)^( +)((?:[a-zA-Z\\[\\]]+ )*)([a-zA-Z]+)\\(([^)]*)\\) \\{$").matcher(code);
        List<String> names = new ArrayList<>();
        while (header.find()) {
            if (header.group(2).isEmpty() || header.group(2).startsWith("}")) {
                continue;
            }
            String name = header.group(3);
            int end = code.indexOf("\n" + header.group(1) + "}", header.end());
            long lines = code.substring(header.end(), end).lines().count();
            CHECK.isTrue(name + " has " + lines + " lines", lines <= LONGEST_METHOD);
            CHECK.isTrue(name + " has more than seven parameters", header.group(4).split(",").length <= 7);
            if (!header.group(2).contains("public")) {
                CHECK.isTrue(name + " bears the name of a public method", !FACE.contains(name));
            }
            names.add(name);
        }
        CHECK.isTrue("methods found: " + names, names.size() > 40 && names.containsAll(FACE));
    }
}
