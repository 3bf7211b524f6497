import java.io.IOException;
import java.nio.file.Files;
import java.nio.file.Path;

/** The example of README.md: it is the one that runs here, and answers as its comments tell. */
public final class ReadmeTest {
    private static final Check CHECK = new Check("ReadmeTest");

    public static void main(String[] args) throws IOException {
        RhymeRing x = new RhymeRing();
        x.feed(0x6f757400, 0, 0, 0, 0);          // "out"
        x.end(3);
        int lines = x.rhyme(0);                  // 1 LINE; below 0: -1 - the place of a FAULT
        x.feed(0x61206220, 0x63000000, 0, 0, 0); // "a b c"
        x.end(5);
        int people = x.people();                 // 3
        int left = x.play();                     // 4: who is LEFT, as bits
        int first = x.hit(0);                    // 1: who was HIT as the first
        CHECK.due("lines", lines, 1);
        CHECK.due("people", people, 3);
        CHECK.due("left", left, 4);
        CHECK.due("first", first, 1);
        linesOfReadme();
        CHECK.close();
    }

    private static void linesOfReadme() throws IOException {
        String source = Files.readString(Path.of("src/test/java/ReadmeTest.java"));
        String[] parts = Files.readString(Path.of("README.md")).split("```");
        CHECK.due("one example", parts.length, 3);
        for (String line : parts[1].substring("java\n".length()).split("\n")) {
            CHECK.due("here is: " + line, source.contains("        " + line + "\n"), true);
        }
    }
}
