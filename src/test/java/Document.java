import java.io.IOException;
import java.nio.file.Files;
import java.nio.file.Path;

/** The document beside the checkout. Where it is missing, a test says so and looks nothing up. */
final class Document {
    private static final Path PLACE = Path.of("..", "shared", "DOC.md");

    private final String text;

    private Document(String text) {
        this.text = text;
    }

    static Document read(String test) throws IOException {
        boolean isThere = Files.exists(PLACE);
        if (!isThere) {
            System.out.println(test + ": no " + PLACE + ", so nothing is looked up in it");
        }
        return new Document(isThere ? Files.readString(PLACE) : null);
    }

    boolean isThere() {
        return text != null;
    }

    /** The text from a heading that begins so to the next heading; empty without such a one. */
    String section(String heading) {
        int start = text.indexOf("\n## " + heading);
        if (start < 0) {
            return "";
        }
        int end = text.indexOf("\n## ", start + 1);
        return text.substring(start, end < 0 ? text.length() : end);
    }

    boolean says(String words, String heading) {
        return oneLine(section(heading)).contains(oneLine(words));
    }

    private static String oneLine(String some) {
        return some.replaceAll("\\s+", " ");
    }
}
