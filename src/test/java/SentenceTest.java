import java.io.IOException;
import java.nio.file.DirectoryStream;
import java.nio.file.Files;
import java.nio.file.Path;

/** Each promise, and the Terms, have a sentence that an EdgeTest quotes. */
public final class SentenceTest {
    private static final Check CHECK = new Check("SentenceTest");

    public static void main(String[] args) throws IOException {
        StringBuilder sources = new StringBuilder();
        try (DirectoryStream<Path> tests =
                Files.newDirectoryStream(Path.of("src/test/java"), "*EdgeTest.java")) {
            for (Path test : tests) {
                sources.append(Files.readString(test));
            }
        }
        CHECK.due("the Terms are quoted", sources.indexOf("CHECK.by(TERMS,") >= 0, true);
        for (int promise = 1; promise <= 31; promise++) {
            CHECK.due("promise " + promise + " is quoted",
                sources.indexOf("CHECK.by(" + promise + ",") >= 0, true);
        }
        CHECK.due("no words of another document", Sentences.has(31, "no such words"), false);
        CHECK.due("words of another promise", Sentences.has(30, "NONE for another what"), false);
        CHECK.due("no promise 32", Sentences.has(32, ""), false);
        CHECK.close();
    }
}
