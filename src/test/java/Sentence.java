import java.util.ArrayList;
import java.util.List;
import java.util.function.Consumer;

/** A sentence of the document that names a boundary, the test of its own, and changes of the program that break it. */
final class Sentence {
    final String heading;
    final String words;
    final Consumer<Check> test;
    final List<Change> changes = new ArrayList<>();

    Sentence(String heading, String words, Consumer<Check> test) {
        this.heading = heading;
        this.words = words;
        this.test = test;
    }

    /** The old words stand in the program once. */
    Sentence broken(String old, String other) {
        changes.add(new Change("", old, other));
        return this;
    }

    /** The old words are the first of their like behind those of the place, which stand in the program once. */
    Sentence brokenIn(String place, String old, String other) {
        changes.add(new Change(place, old, other));
        return this;
    }

    String title() {
        return heading + ", \"" + words + "\"";
    }

    /** One small change of the program's text. */
    record Change(String place, String old, String other) {

        /** The changed text, or null if the words to be changed are not there, or not once. */
        String in(String source) {
            int from = place.isEmpty() ? 0 : onlyIndex(source, place);
            int at = place.isEmpty() ? onlyIndex(source, old) : source.indexOf(old, Math.max(from, 0));
            if (from < 0 || at < 0) {
                return null;
            }
            return source.substring(0, at) + other + source.substring(at + old.length());
        }

        private static int onlyIndex(String source, String words) {
            int first = source.indexOf(words);
            return first == source.lastIndexOf(words) ? first : -1;
        }

        @Override
        public String toString() {
            return (place.isEmpty() ? "" : "behind [" + place + "] ") + "[" + old + "] as [" + other + "]";
        }
    }
}
