import java.io.IOException;
import java.util.ArrayList;
import java.util.List;

/** Each sentence of the document that names a boundary has a test of its own here. */
public final class BoundaryTest {
    private static final int PROMISES = 25;

    private BoundaryTest() {
    }

    public static void main(String[] args) throws IOException {
        Check sum = new Check("BoundaryTest");
        standInTheDocument(sum);
        allHold(sum);
        sum.end();
    }

    private static void allHold(Check sum) {
        for (Sentence sentence : sentences()) {
            Check own = new Check(sentence.title());
            sentence.test.accept(own);
            sum.isTrue("does not hold: " + sentence.title(), own.failures() == 0 && own.passes() > 0);
        }
    }

    /** For CallLimitTest, with another program. */
    public static int failures() {
        Check sum = new Check("BoundaryTest");
        allHold(sum);
        return sum.failures();
    }

    static List<Sentence> sentences() {
        List<Sentence> all = new ArrayList<>();
        BurnerSentences.addTo(all);
        TickSentences.addTo(all);
        TextSentences.addTo(all);
        HistorySentences.addTo(all);
        ActSentences.addTo(all);
        TellSentences.addTo(all);
        return all;
    }

    /** For BrokenTest, with another program. */
    public static int failuresOf(int sentence) {
        Check quiet = new Check("", false);
        sentences().get(sentence).test.accept(quiet);
        return quiet.failures();
    }

    /** A sentence that the document no longer holds has a test that nobody asks for. */
    private static void standInTheDocument(Check sum) throws IOException {
        Document document = new Document();
        for (Sentence sentence : sentences()) {
            sum.isTrue("not in the document: " + sentence.title(),
                    document.under(sentence.heading).contains(sentence.words));
        }
        for (int promise = 1; promise <= PROMISES; promise++) {
            String heading = "Promise " + promise;
            sum.isTrue("no sentence of " + heading,
                    sentences().stream().anyMatch(sentence -> sentence.heading.equals(heading)));
        }
    }
}
