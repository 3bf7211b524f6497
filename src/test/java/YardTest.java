/** Promises 5 and 7: THE YARD and its FAULTS. What its RULES do is in PlayTest and GameTest. */
public final class YardTest {
    private static final Check CHECK = new Check("YardTest");

    public static void main(String[] args) {
        rules();
        faults();
        numbers();
        faultChangesNothing();
        replacedWhole();
        CHECK.close();
    }

    private static void rules() {
        RhymeRing x = new RhymeRing();
        CHECK.due("no RULE", Check.yard(x, ""), 0);
        CHECK.due("all RULES", Check.yard(x, "count words;by fists;hit stays;then same;"
            + "turn always;left 2;rhymes 0 5 0 5;aim left;"), 8);
        CHECK.due("all others", Check.yard(x, "aim free;rhymes 3;left 9;turn never;then caller;"
            + "hit out;by heads;count beats;"), 8);
        CHECK.due("no FAULT", x.fault(), 0);
        CHECK.due("next", Check.yard(x, "\nthen\nnext ;"), 1);
        CHECK.due("the tape is empty", x.told(3), 0);
    }

    private static void fault(String text, int place, int kind) {
        RhymeRing x = new RhymeRing();
        CHECK.dueFault("yard " + text, x, Check.yard(x, text), place, kind);
        CHECK.due("the tape is empty with a FAULT", x.told(3), 0);
    }

    private static void faults() {
        fault("count", 5, 2);
        fault("count;", 5, 2);
        fault("count heads;", 6, 2);
        fault("count 1;", 6, 2);
        fault("count words", 11, 2);
        fault("count words beats;", 12, 2);
        fault("count words;count beats;", 12, 4);
        fault("by words;", 3, 2);
        fault("by Heads;", 3, 1);
        fault("hit left;", 4, 2);
        fault("then last;", 5, 2);
        fault("turn next;", 5, 2);
        fault("aim 1;", 4, 2);
        fault("aim out;", 4, 2);
        fault("vowels a;", 0, 2);
        fault("heads;", 0, 2);
        fault("left 1;aim left;left 1;", 16, 4);
        fault("aim left;aim", 9, 4);
        fault("hit out,", 7, 1);
        fault("hit out. ", 7, 1);
    }

    private static void numbers() {
        fault("left;", 4, 2);
        fault("left a;", 5, 2);
        fault("left 0;", 5, 3);
        fault("left 10;", 5, 1);
        fault("left -1;", 5, 1);
        fault("left 1 2;", 7, 2);
        fault("left 1", 6, 2);
        fault("rhymes;", 6, 2);
        fault("rhymes a;", 7, 2);
        fault("rhymes 6;", 7, 3);
        fault("rhymes 9;", 7, 3);
        fault("rhymes 0 6;", 9, 3);
        fault("rhymes 0 1 2 3 4;", 15, 3);
        fault("rhymes 0 1 2 3 a;", 15, 2);
        fault("rhymes 01;", 7, 1);
        fault("rhymes 0", 8, 2);
    }

    private static void faultChangesNothing() {
        RhymeRing x = new RhymeRing();
        Check.people(x, "a b c");
        Check.rhyme(x, 1, "out");
        Check.yard(x, "left 2;rhymes 1;count words;");
        CHECK.due("by words a is HIT", Check.play(x), 6);
        CHECK.due("a FAULT", Check.yard(x, "left 1;rhymes 0;count beats;hit"), -32);
        CHECK.due("THE YARD stays", Check.play(x), 6);
        CHECK.due("last too", x.last(10), 9);
    }

    private static void replacedWhole() {
        RhymeRing x = new RhymeRing();
        Check.people(x, "a b c");
        Check.rhyme(x, 0, "out");
        Check.rhyme(x, 1, "a");
        Check.yard(x, "left 2;rhymes 1;count words;hit stays;aim left;turn always;by fists;");
        CHECK.due("all told", Check.play(x), 1);
        Check.yard(x, "aim free;");
        CHECK.due("all as usual again", Check.play(x), 4);
        CHECK.due("hit 0", x.hit(0), 1);
        CHECK.due("hit 1", x.hit(1), 0);
        CHECK.due("hit 2", x.hit(2), -1);
    }
}
