import java.io.IOException;
import java.io.UncheckedIOException;
import java.nio.file.Files;
import java.nio.file.Path;
import java.util.regex.Matcher;
import java.util.regex.Pattern;

/** The words of the document, so that each test of an edge can name the sentence that it is there for. */
final class Document {
    private static final String TEXT = read();

    private Document() {
    }

    private static String read() {
        try {
            return flat(Files.readString(Path.of("../shared/DOC.md")));
        } catch (IOException e) {
            throw new UncheckedIOException(e);
        }
    }

    private static String flat(String text) {
        return text.replaceAll("\\s+", " ");
    }

    /** A sentence that no longer stands there has to be read again, and its test with it. */
    static void says(Check check, String sentence) {
        check.due("the document says: " + sentence, TEXT.contains(flat(sentence)), true);
    }

    /** The words of one promise, from its signature on. */
    static String promise(String name) {
        Matcher matcher = Pattern.compile("## Promise \\d+: " + name + " (.*?)(?=## )").matcher(TEXT);
        if (!matcher.find()) {
            throw new IllegalArgumentException("no promise of " + name);
        }
        return matcher.group(1);
    }

    /** The least and the greatest number that the document names for an argument, or null if it names none. */
    static int[] range(String name, String argument) {
        Matcher line = Pattern.compile("- `" + argument + "`: (.*?)(?= - `| Returns | Throws |$)").matcher(promise(name));
        if (!line.find()) {
            throw new IllegalArgumentException("no argument " + argument + " of " + name);
        }
        Matcher numbers = Pattern.compile("(-?\\d+) (?:to|or) (-?\\d+)").matcher(line.group(1));
        return numbers.find() ? new int[] {Integer.parseInt(numbers.group(1)), Integer.parseInt(numbers.group(2))} : null;
    }

    /** The names of the arguments of a promise, in their order. */
    static String[] arguments(String name) {
        String promise = promise(name);
        String inside = promise.substring(promise.indexOf('(') + 1, promise.indexOf(')'));
        return inside.isEmpty() ? new String[0] : inside.replaceAll("\\w+ (\\w+)", "$1").split(", ");
    }
}
