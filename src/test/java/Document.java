import java.io.IOException;
import java.io.UncheckedIOException;
import java.nio.file.Files;
import java.nio.file.Path;

/** The document beside the checkout: the words that a test quotes have to stand in it. */
final class Document {
    private static final Path FILE = Path.of("../shared/DOC.md");

    private Document() {
    }

    /** True as well where there is no document to look at: the class can be tested without it. */
    static boolean says(String section, String words) {
        return !Files.exists(FILE) || section(section).contains(words);
    }

    private static String section(String heading) {
        String text = "\n" + read() + "\n## ";
        int from = text.indexOf("\n## " + heading + "\n");
        if (from < 0) {
            return "";
        }
        return text.substring(from, text.indexOf("\n## ", from + 1)).replaceAll("\\s+", " ");
    }

    private static String read() {
        try {
            return Files.readString(FILE);
        } catch (IOException unreadable) {
            throw new UncheckedIOException(unreadable);
        }
    }
}
