import java.io.IOException;
import java.io.UncheckedIOException;
import java.nio.file.Files;
import java.nio.file.Path;

/** A document's sections, so that what a test names is what stands there. */
final class Document {
    static final Path PROMISES = Path.of("..", "shared", "DOC.md");
    static final Path README = Path.of("README.md");

    private final String text;

    Document(Path file) {
        try {
            text = "\n" + Files.readString(file);
        } catch (IOException missing) {
            throw new UncheckedIOException(missing);
        }
    }

    /** Whether the words stand in a section, "Terms" or "Promise 14", however its lines are broken. */
    boolean says(String section, String words) {
        return plain(bodyOf(section)).contains(plain(words));
    }

    /** A section with its heading; empty when there is none. */
    String bodyOf(String section) {
        for (String part : text.split("\n## ")) {
            String heading = part.split("\n", 2)[0];
            if (heading.equals(section) || heading.startsWith(section + ":")) {
                return part;
            }
        }
        return "";
    }

    /** The first block of code of a kind, "java" or "text", in a section; empty when there is none. */
    String block(String section, String kind) {
        String[] around = bodyOf(section).split("\n```" + kind + "\n", 2);
        return around.length < 2 ? "" : around[1].split("\n```", 2)[0];
    }

    private static String plain(String words) {
        return words.replaceAll("\\s+", " ").trim();
    }
}
