import java.io.IOException;
import java.io.UncheckedIOException;
import java.nio.file.Files;
import java.nio.file.Path;

/** The document's sections, so that a sentence that a test names is one that stands there. */
final class Document {
    private static final Path FILE = Path.of("..", "shared", "DOC.md");

    private final String text;

    Document() {
        try {
            text = "\n" + Files.readString(FILE);
        } catch (IOException missing) {
            throw new UncheckedIOException(missing);
        }
    }

    /** Whether the words stand in a section, "Terms" or "Promise 14", however its lines are broken. */
    boolean says(String section, String words) {
        return plain(bodyOf(section)).contains(plain(words));
    }

    private String bodyOf(String section) {
        for (String part : text.split("\n## ")) {
            String heading = part.split("\n", 2)[0];
            if (heading.equals(section) || heading.startsWith(section + ":")) {
                return part;
            }
        }
        return "";
    }

    private static String plain(String words) {
        return words.replaceAll("\\s+", " ").trim();
    }
}
