/** Promises 8 and 9: PEOPLE and ANSWERS. */
public final class WordsTest {
    private static final Check CHECK = new Check("WordsTest");

    public static void main(String[] args) {
        people();
        answers();
        wrong();
        apart();
        CHECK.close();
    }

    private static void people() {
        RhymeRing x = new RhymeRing();
        CHECK.due("one", Check.people(x, "ann"), 1);
        CHECK.due("three", Check.people(x, "ann bob cy"), 3);
        CHECK.due("told", x.told(1), 3);
        CHECK.due("the tape is empty", x.told(3), 0);
        CHECK.due("twelve", Check.people(x, "a b c d e f g h i j k l"), 12);
        CHECK.due("thirteen", Check.people(x, "a b c d e f g h i j k l m"), -1);
        CHECK.due("they stay", x.told(1), 12);
        CHECK.due("alike NAMES", Check.people(x, "a a a"), 3);
        StringBuilder names = new StringBuilder("abcdefghijkl");
        for (int i = 1; i < 12; i++) {
            names.append(" abcdefghijkl");
        }
        CHECK.due("twelve of twelve letters", Check.people(x, names.toString()), 12);
    }

    private static void answers() {
        RhymeRing x = new RhymeRing();
        CHECK.due("one", Check.answers(x, "yes"), 1);
        CHECK.due("five", Check.answers(x, "a b c d e"), 5);
        CHECK.due("six", Check.answers(x, "a b c d e f"), -1);
        CHECK.due("they stay", x.told(2), 5);
        CHECK.due("the tape is empty", x.told(3), 0);
    }

    private static void wrong() {
        String[] texts = {"", " ", " a", "a ", "a  b", "a\nb", "A", "a B", "a 1", "a1", "a;",
            "abcdefghijklm", "a abcdefghijklm", "a\u00e9", "a\tb"};
        for (String text : texts) {
            RhymeRing x = new RhymeRing();
            Check.people(x, "ann bob cy");
            Check.answers(x, "yes no");
            CHECK.due("people of " + text, Check.people(x, text), -1);
            CHECK.due("the tape is empty", x.told(3), 0);
            CHECK.due("answers of " + text, Check.answers(x, text), -1);
            CHECK.due("the tape is empty again", x.told(3), 0);
            CHECK.due("three stay", x.told(1), 3);
            CHECK.due("two stay", x.told(2), 2);
            Check.rhyme(x, 0, "b ?");
            CHECK.due("ann says yes", Check.play(x, 0), 2);
            CHECK.due("fault is that of the RHYME", x.fault(), 0);
        }
    }

    /** PEOPLE do not become ANSWERS, nor the other way. */
    private static void apart() {
        RhymeRing x = new RhymeRing();
        Check.people(x, "moe ann bo");
        Check.answers(x, "no yes");
        Check.people(x, "A");
        Check.answers(x, "A");
        Check.rhyme(x, 0, "@ ?");
        Check.yard(x, "hit stays;");
        CHECK.due("moe is two, ann says no", Check.play(x), 1 << 0);
        CHECK.due("ann says yes", Check.play(x, 1), 1 << 1);
        Check.people(x, "ann bo cy");
        CHECK.due("ann is one, ann says no", Check.play(x), 1 << 2);
    }
}
