import java.io.IOException;
import java.io.UncheckedIOException;
import java.nio.file.Files;
import java.nio.file.Path;

/** The words of the document, so that a test can quote nothing but what is written there. */
final class Sentences {
    /** Stands for the section 'Terms' in the place of a promise's number. */
    static final int TERMS = 0;

    private static final String DOCUMENT = read();

    private Sentences() {
    }

    private static String read() {
        try {
            return Files.readString(Path.of("../shared/DOC.md")).replaceAll("\\s+", " ");
        } catch (IOException e) {
            throw new UncheckedIOException(e);
        }
    }

    static boolean has(int promise, String words) {
        String heading = promise == TERMS ? "## Terms " : "## Promise " + promise + ": ";
        int from = DOCUMENT.indexOf(heading);
        int to = from < 0 ? -1 : DOCUMENT.indexOf(" ## ", from);
        return to >= 0 && DOCUMENT.substring(from, to).contains(words);
    }
}
