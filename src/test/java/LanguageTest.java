import java.io.IOException;
import java.lang.reflect.Field;
import java.lang.reflect.Modifier;
import java.nio.file.Files;
import java.nio.file.Path;
import java.util.ArrayList;
import java.util.List;
import java.util.Set;
import java.util.TreeSet;
import java.util.regex.Matcher;
import java.util.regex.Pattern;

/** The rules of LANGUAGE.md that can be seen from the words of the program. */
public final class LanguageTest {
    private static final Check CHECK = new Check("LanguageTest");
    private static final Set<String> FACE = Set.of("set", "setKind", "plan", "readPlan", "turn", "press", "igniter",
            "light", "unlock", "pass", "type", "clearText", "undo", "keep", "restore", "burner", "staysOpen", "toPress",
            "clearIn", "blownIn", "entry", "event", "count", "setting");
    private static final Set<String> LIBRARY = Set.of("Math.min", "Math.max", "System.arraycopy");
    private static final Set<Class<?>> PLAIN = Set.of(int.class, boolean.class, int[].class, char[].class);
    private static final int LONGEST_METHOD = 60;
    private static final int MOST_CLASSES = 12;
    private static final int MOST_FIELDS = 20;

    private LanguageTest() {
    }

    public static void main(String[] args) throws IOException {
        String source = Files.readString(Path.of("src/main/java/FlameGuards.java"));
        String code = withoutComments(source);
        forbiddenWords(code);
        CHECK.isTrue("a lambda or a method reference", !code.contains("->") && !code.contains("::"));
        CHECK.isTrue("a sign above 126", source.chars().allMatch(sign -> sign < 127));
        CHECK.isTrue("a static field that is not final",
                !Pattern.compile("static (?!final)[^(\n]*[;=]").matcher(code).find());
        CHECK.isTrue("a static initialiser", !Pattern.compile("static\\s*\\{").matcher(code).find());
        ownMethods(code);
        constructors(code);
        library(code);
        classes();
        CHECK.end();
    }

    private static String withoutComments(String source) {
        return source.replaceAll("(?s)/\\*.*?\\*/", "").replaceAll("//[^\n]*", "");
    }

    private static void forbiddenWords(String code) {
        for (String word : List.of("package", "import", "throw", "throws", "try", "catch", "finally", "synchronized",
                "assert", "protected", "volatile", "native", "goto", "random", "equals", "hashCode", "toString",
                "extends", "implements")) {
            CHECK.isTrue("the word " + word, !Pattern.compile("\\b" + word + "\\b").matcher(code).find());
        }
    }

    /** Short methods, and inside the classes none with the name of one of the face. */
    private static void ownMethods(String code) {
        Matcher header = Pattern.compile("(?m)^( +)((?:[a-zA-Z\\[\\]]+ )*)([a-zA-Z]+)\\(([^)]*)\\) \\{$").matcher(code);
        List<String> names = new ArrayList<>();
        while (header.find()) {
            if (header.group(2).isEmpty() || header.group(2).startsWith("}")) {
                continue;
            }
            String name = header.group(3);
            int end = code.indexOf("\n" + header.group(1) + "}", header.end());
            long lines = code.substring(header.end(), end).lines().count();
            CHECK.isTrue(name + " has " + lines + " lines", lines <= LONGEST_METHOD);
            CHECK.isTrue(name + " has more than seven parameters", header.group(4).split(",").length <= 7);
            if (!header.group(2).contains("public")) {
                CHECK.isTrue(name + " bears the name of a public method", !FACE.contains(name));
            }
            names.add(name);
        }
        CHECK.isTrue("methods found: " + names, names.size() > 40 && names.containsAll(FACE));
    }

    /** A constructor makes objects and rows; it calls nothing that could get hold of the unfinished object. */
    private static void constructors(String code) {
        Matcher header = Pattern.compile("(?m)^( +)(?:public )?([A-Z]\\w*)\\([^)]*\\) \\{$").matcher(code);
        int found = 0;
        while (header.find()) {
            int end = code.indexOf("\n" + header.group(1) + "}", header.end());
            String body = code.substring(header.end(), end).replaceAll("\\b(new \\w+|for|if) ?\\(", "");
            CHECK.isTrue("a call in the constructor of " + header.group(2), !Pattern.compile("\\w\\(").matcher(body).find());
            found++;
        }
        CHECK.due("constructors", found, classesOfTheProgram().size());
    }

    private static void library(String code) {
        Set<String> own = new TreeSet<>();
        for (Class<?> each : classesOfTheProgram()) {
            own.add(each.getSimpleName());
        }
        Matcher call = Pattern.compile("\\b([A-Z]\\w*[a-z]\\w*)\\.\\w+(?=\\()").matcher(code);
        while (call.find()) {
            CHECK.isTrue("a call of " + call.group(), own.contains(call.group(1)) || LIBRARY.contains(call.group()));
        }
    }

    private static void classes() {
        List<Class<?>> all = classesOfTheProgram();
        CHECK.isTrue(all.size() + " classes", all.size() <= MOST_CLASSES);
        for (Class<?> each : all) {
            CHECK.isTrue(each + " is not static", each == FlameGuards.class || Modifier.isStatic(each.getModifiers()));
            CHECK.isTrue(each + " is open", each == FlameGuards.class
                    || !Modifier.isPublic(each.getModifiers()) && !Modifier.isProtected(each.getModifiers()));
            fields(each, all);
        }
    }

    private static void fields(Class<?> owner, List<Class<?>> own) {
        int inObjects = 0;
        for (Field field : owner.getDeclaredFields()) {
            boolean isStatic = Modifier.isStatic(field.getModifiers());
            Class<?> type = field.getType();
            boolean isOwn = own.contains(type) || type.isArray() && own.contains(type.getComponentType());
            CHECK.isTrue("the type of " + field, PLAIN.contains(type) || !isStatic && isOwn);
            CHECK.isTrue(field + " is static and not final", !isStatic || Modifier.isFinal(field.getModifiers()));
            inObjects += isStatic ? 0 : 1;
        }
        CHECK.isTrue(owner + " has " + inObjects + " fields", inObjects <= MOST_FIELDS);
    }

    private static List<Class<?>> classesOfTheProgram() {
        List<Class<?>> all = new ArrayList<>(List.of(FlameGuards.class.getDeclaredClasses()));
        all.add(FlameGuards.class);
        return all;
    }
}
