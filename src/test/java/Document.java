import java.io.IOException;
import java.io.UncheckedIOException;
import java.nio.file.Files;
import java.nio.file.Path;

/** The words of the document, so that each test of an edge can name the sentence that it is there for. */
final class Document {
    private static final String TEXT = read();

    private Document() {
    }

    private static String read() {
        try {
            return flat(Files.readString(Path.of("../shared/DOC.md")));
        } catch (IOException e) {
            throw new UncheckedIOException(e);
        }
    }

    private static String flat(String text) {
        return text.replaceAll("\\s+", " ");
    }

    /** A sentence that no longer stands there has to be read again, and its test with it. */
    static void says(Check check, String sentence) {
        check.due("the document says: " + sentence, TEXT.contains(flat(sentence)), true);
    }
}
