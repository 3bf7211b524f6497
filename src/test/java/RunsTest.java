import java.io.IOException;
import java.nio.file.Files;
import java.nio.file.Path;
import java.util.TreeSet;
import java.util.regex.Matcher;
import java.util.regex.Pattern;

/**
 * Runs of calls written down in src/test/runs/recorded.txt, one call a line: its name, its
 * arguments (a boolean is 1 or 0), the tape's bytes between quotes if it reads the tape (a
 * backslash and two hexadecimal digits stand for a byte), and the answer that is due.
 */
public final class RunsTest {
    private static final Check CHECK = new Check("RunsTest");
    private static final Pattern CALL =
        Pattern.compile("([a-z]+)((?: -?\\d+)*)(?: \"([^\"]*)\")? = (-?\\d+|throws)");
    private static final Pattern BYTE = Pattern.compile("\\\\([0-9a-f]{2})");

    private final TreeSet<String> called = new TreeSet<>();
    private RhymeRing x = new RhymeRing();

    public static void main(String[] args) throws IOException {
        RunsTest test = new RunsTest();
        int number = 0;
        for (String line : Files.readAllLines(Path.of("src/test/runs/recorded.txt"))) {
            number++;
            if (!line.startsWith("#")) {
                test.step(number, line);
            }
        }
        CHECK.due("calls of the face but feed and end " + test.called, test.called.size(), 28);
        CHECK.close();
    }

    private void step(int number, String line) {
        if (line.equals("new")) {
            x = new RhymeRing();
            return;
        }
        Matcher call = CALL.matcher(line);
        if (!call.matches()) {
            throw new IllegalStateException("line " + number + " is no call: " + line);
        }
        if (call.group(3) != null) {
            Check.put(x, bytes(call.group(3)));
        }
        String[] words = call.group(2).trim().split(" ");
        long[] arguments = new long[2];
        for (int i = 0; i < words.length && !words[i].isEmpty(); i++) {
            arguments[i] = Long.parseLong(words[i]);
        }
        String due = call.group(4);
        called.add(call.group(1));
        CHECK.due("line " + number + ": " + line, answer(call.group(1), arguments),
            due.equals("throws") ? Check.THROWN : Long.parseLong(due));
    }

    private static String bytes(String text) {
        return BYTE.matcher(text).replaceAll(m -> {
            char sign = (char) Integer.parseInt(m.group(1), 16);
            return Matcher.quoteReplacement(String.valueOf(sign));
        });
    }

    private long answer(String name, long[] arguments) {
        int a = (int) arguments[0];
        int b = (int) arguments[1];
        return switch (name) {
            case "tongue" -> x.tongue();
            case "yard" -> x.yard();
            case "rhyme" -> x.rhyme(a);
            case "fault" -> x.fault();
            case "people" -> x.people();
            case "answers" -> x.answers();
            case "forget" -> x.forget(a) ? 1 : 0;
            case "born" -> x.born(a, b) ? 1 : 0;
            case "beats" -> x.beats();
            case "strong" -> x.strong();
            case "counted" -> x.counted(a, b == 1);
            case "feet" -> x.feet(a, b);
            case "octet" -> Check.octet(x, a);
            case "alike" -> x.alike(a, b);
            case "play" -> x.play();
            case "hit" -> x.hit(a);
            case "last" -> x.last(arguments[0]);
            case "game" -> x.game(a);
            case "says" -> x.says(a);
            case "sure" -> x.sure(a);
            case "share" -> Check.share(x, a, b);
            case "mend" -> x.mend();
            case "changes" -> x.changes(a, b);
            case "parent" -> x.parent(a);
            case "mixed" -> x.mixed(a, b);
            case "holds" -> x.holds();
            case "explain" -> x.explain();
            case "told" -> x.told(a);
            default -> throw new IllegalStateException("no call " + name);
        };
    }
}
