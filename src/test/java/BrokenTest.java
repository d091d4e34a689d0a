import java.io.IOException;
import java.io.UncheckedIOException;
import java.lang.reflect.InvocationTargetException;
import java.net.URLClassLoader;
import java.util.ArrayList;
import java.util.List;

/** A program in which a sentence does not hold must be found by the test of that sentence. */
public final class BrokenTest {
    private static final Check CHECK = new Check("BrokenTest");
    private static final String FOUND = "";

    private BrokenTest() {
    }

    public static void main(String[] args) throws IOException {
        String source = Room.program();
        List<Sentence> sentences = BoundaryTest.sentences();
        wholeProgramIsNotFound(source, sentences.size());
        List<Trial> trials = new ArrayList<>();
        for (int i = 0; i < sentences.size(); i++) {
            CHECK.isTrue("no change breaks " + sentences.get(i).title(), !sentences.get(i).changes.isEmpty());
            for (Sentence.Change change : sentences.get(i).changes) {
                trials.add(new Trial(trials.size(), i, sentences.get(i).title() + " with " + change, change.in(source)));
            }
        }
        List<String> complaints = trials.parallelStream().map(BrokenTest::complaintOf).toList();
        for (String complaint : complaints) {
            CHECK.isTrue(complaint, complaint.equals(FOUND));
        }
        CHECK.end();
    }

    /** Without this, tests that can't be loaded in a room would count as having found everything. */
    private static void wholeProgramIsNotFound(String source, int sentences) throws IOException {
        Room room = new Room("whole", source);
        CHECK.isTrue("the whole program: " + room.complaint, room.complaint == null);
        for (int i = 0; i < sentences; i++) {
            CHECK.isTrue("a fault is found in the whole program, by sentence " + i, !isFound(room, i));
        }
    }

    private record Trial(int number, int sentence, String title, String source) {
    }

    private static String complaintOf(Trial trial) {
        if (trial.source() == null) {
            return "the program has no such words, or more than once (name others that break the sentence): "
                    + trial.title();
        }
        try {
            Room room = new Room(Integer.toString(trial.number()), trial.source());
            if (room.complaint != null) {
                return "does not compile: " + trial.title() + "\n" + room.complaint;
            }
            return isFound(room, trial.sentence()) ? FOUND : "not found by its test: " + trial.title();
        } catch (IOException e) {
            throw new UncheckedIOException(e);
        }
    }

    private static boolean isFound(Room room, int sentence) throws IOException {
        try (URLClassLoader tests = room.tests()) {
            Object failures = tests.loadClass("BoundaryTest").getMethod("failuresOf", int.class).invoke(null, sentence);
            return (Integer) failures > 0;
        } catch (InvocationTargetException thrownByTheBrokenProgram) {
            return true;
        } catch (ReflectiveOperationException e) {
            throw new IllegalStateException(e);
        }
    }
}
