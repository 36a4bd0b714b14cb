import java.io.IOException;
import java.io.UncheckedIOException;
import java.nio.file.Files;
import java.nio.file.Path;

/** The document's own words, so that a test can't quote a sentence that is not there. */
final class Document {
    private static final String WORDS = read();

    private Document() {
    }

    static boolean says(String words) {
        return WORDS.contains(words);
    }

    private static String read() {
        try {
            return Files.readString(Path.of("..", "shared", "DOC.md")).replaceAll("\\s+", " ");
        } catch (IOException e) {
            throw new UncheckedIOException(e);
        }
    }
}
