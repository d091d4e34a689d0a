import java.io.IOException;
import java.nio.file.Files;
import java.nio.file.Path;

/** The document's text, by its headings. */
final class Document {
    private final String text;

    Document() throws IOException {
        text = "\n" + Files.readString(Path.of("../shared/DOC.md"));
    }

    /** The text under a heading ("Terms", "Promise 2"), or an empty one if there is no such heading. */
    String under(String heading) {
        int start = text.indexOf("\n## " + heading + ":");
        if (start < 0) {
            start = text.indexOf("\n## " + heading + "\n");
        }
        if (start < 0) {
            return "";
        }
        int end = text.indexOf("\n## ", start + 1);
        return text.substring(start, end < 0 ? text.length() : end);
    }
}
