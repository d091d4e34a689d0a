import java.lang.reflect.Constructor;
import java.lang.reflect.Field;
import java.lang.reflect.Method;
import java.lang.reflect.Modifier;
import java.util.Arrays;
import java.util.Set;
import java.util.TreeSet;

/** The class has the document's face, and no other member that is not private. */
public final class FaceTest {
    private static final Check CHECK = new Check("FaceTest");

    private FaceTest() {
    }

    public static void main(String[] args) {
        constants();
        constructors();
        methods();
        CHECK.isTrue("the class is not public and final",
                Modifier.isPublic(FlameGuards.class.getModifiers()) && Modifier.isFinal(FlameGuards.class.getModifiers()));
        CHECK.end();
    }

    private static void constants() {
        CHECK.due("UNKNOWN", FlameGuards.UNKNOWN, -1);
        CHECK.due("BAD_VALUE", FlameGuards.BAD_VALUE, -2);
        CHECK.due("FULL", FlameGuards.FULL, -3);
        CHECK.due("NOT_POSSIBLE", FlameGuards.NOT_POSSIBLE, -4);
        CHECK.due("NONE", FlameGuards.NONE, -5);
        Set<String> open = new TreeSet<>();
        for (Field field : FlameGuards.class.getDeclaredFields()) {
            if (!Modifier.isPrivate(field.getModifiers())) {
                open.add(Modifier.toString(field.getModifiers()) + " " + field.getType() + " " + field.getName());
            }
        }
        Set<String> due = new TreeSet<>();
        for (String name : new String[] {"UNKNOWN", "BAD_VALUE", "FULL", "NOT_POSSIBLE", "NONE"}) {
            due.add("public static final int " + name);
        }
        CHECK.isTrue("fields that are not private: " + open, open.equals(due));
    }

    private static void constructors() {
        Constructor<?>[] all = FlameGuards.class.getDeclaredConstructors();
        CHECK.isTrue("the constructors: " + Arrays.toString(all),
                all.length == 1 && Modifier.isPublic(all[0].getModifiers()) && all[0].getParameterCount() == 0);
    }

    private static void methods() {
        Set<String> due = new TreeSet<>(Set.of(
                "set(int,int)", "setKind(int,int)", "plan(int,int)", "readPlan()", "turn(int,int)", "press(int,boolean)",
                "igniter(int,boolean)", "light(int)", "unlock(int)", "pass(int)", "type(char)", "clearText()", "undo()",
                "keep()", "restore()", "burner(int,int)", "staysOpen(int)", "toPress(int,int)", "clearIn()",
                "blownIn(int)", "entry(int,int)", "event(int,int)", "count(int)", "setting(int)"));
        Set<String> open = new TreeSet<>();
        for (Method method : FlameGuards.class.getDeclaredMethods()) {
            if (!Modifier.isPrivate(method.getModifiers()) && !method.isSynthetic()) {
                String words = method.toString();
                CHECK.isTrue(words, words.startsWith("public int FlameGuards."));
                open.add(words.substring("public int FlameGuards.".length()));
            }
        }
        CHECK.isTrue("methods that are not private: " + open, open.equals(due));
    }
}
