/** Promises 6, 7, 10, 14, 15 and 17: RHYMES, their FAULTS, how they are COUNTED, their FEET. */
public final class RhymeTest {
    private static final Check CHECK = new Check("RhymeTest");

    public static void main(String[] args) {
        lines();
        bytesThatCannotCome();
        tooMany();
        dumb();
        greatest();
        slots();
        forget();
        counted();
        feet();
        feetStay();
        alike();
        tongueOfNow();
        CHECK.close();
    }

    private static void lines() {
        RhymeRing x = new RhymeRing();
        String[] texts = {"a", "@", "a!", "a ?", "@ -", "2x a", "9x - a", "abcdefghijkl!"};
        for (String text : texts) {
            CHECK.due("rhyme " + text, Check.rhyme(x, 0, text), 1);
            CHECK.due("fault of " + text, x.fault(), 0);
        }
        CHECK.due("an ask alone in its LINE", Check.rhyme(x, 0, "a/?"), 2);
        CHECK.due("TIMES in each", Check.rhyme(x, 0, "2x a/3x b! -/@ c"), 3);
        CHECK.due("a name alone", Check.rhyme(x, 0, "-/2x @"), 2);
        CHECK.due("sixteen LINES", Check.rhyme(x, 0, "a/a/a/a/a/a/a/a/a/a/a/a/a/a/a/a"), 16);
        CHECK.due("the tape is empty", x.told(3), 0);
    }

    private static void fault(String text, int place, int kind) {
        RhymeRing x = new RhymeRing();
        CHECK.dueFault("rhyme " + text, x, Check.rhyme(x, 0, text), place, kind);
        CHECK.due("no RHYME of a FAULT", x.told(0), 0);
        CHECK.due("the tape is empty with a FAULT", x.told(3), 0);
    }

    private static void bytesThatCannotCome() {
        fault("", 0, 1);
        fault(" ", 0, 1);
        fault(" a", 0, 1);
        fault("a ", 2, 1);
        fault("a  b", 2, 1);
        fault("a/", 2, 1);
        fault("a//b", 2, 1);
        fault("a /b", 2, 1);
        fault("a/ b", 2, 1);
        fault("/a", 0, 1);
        fault("a\nb", 1, 1);
        fault("!", 0, 1);
        fault("a!b", 2, 1);
        fault("a!!", 2, 1);
        fault("-a", 1, 1);
        fault("-!", 1, 1);
        fault("@@", 1, 1);
        fault("A", 0, 1);
        fault("a1", 1, 1);
        fault("1x a", 0, 1);
        fault("0x a", 0, 1);
        fault("10x a", 0, 1);
        fault("2y a", 1, 1);
        fault("2", 1, 1);
        fault("2x", 2, 1);
        fault("2x ", 3, 1);
        fault("2xa", 2, 1);
        fault("2x/a", 2, 1);
        fault("2x 3x a", 3, 1);
        fault("a 2x", 2, 1);
        fault("2x a ?", 5, 1);
        fault("2x ?", 3, 1);
        fault("a/2x b ?", 7, 1);
        fault("a?", 1, 1);
        fault("a ? b", 3, 1);
        fault("a ?b", 3, 1);
        fault("a ?/b", 3, 1);
        fault("a ??", 3, 1);
        fault("?a", 1, 1);
        fault("a\u00ff", 1, 1);
    }

    private static void tooMany() {
        fault("abcdefghijklm", 12, 2);
        fault("a abcdefghijklm!", 14, 2);
        fault("abcdefghijkl1", 12, 1);
        fault("a/a/a/a/a/a/a/a/a/a/a/a/a/a/a/a/a", 31, 2);
        fault("a/a/a/a/a/a/a/a/a/a/a/a/a/a/a/a/", 31, 2);
        fault("a/a/a/a/a/a/a/a/a/a/a/a/a/a/a//", 30, 1);
        fault("a/a/a/a/a/a/a/a/a/a/a/a/a/a/a/a /", 32, 1);
        fault("-/-/-/-/-/-/-/-/-/-/-/-/-/-/-/-/-", 31, 2);
    }

    private static void dumb() {
        fault("-", 0, 3);
        fault("?", 0, 3);
        fault("- -/2x -", 0, 3);
        fault("-/?", 0, 3);
        fault("- - ?", 0, 3);
        fault("- ?-", 3, 1);
    }

    private static void greatest() {
        StringBuilder text = new StringBuilder("b");
        while (text.length() < 239) {
            text.append(" b");
        }
        RhymeRing x = new RhymeRing();
        CHECK.due("239 bytes", Check.rhyme(x, 0, text.toString()), 1);
        CHECK.due("120 ITEMS", x.counted(0, false), 120);
        CHECK.due("120 FEET", x.feet(0, 0), 120);
        CHECK.due("240 bytes", Check.rhyme(x, 0, text + "b"), 1);
        fault(text + " ", 240, 1);
        fault(text + "bb", 240, 1);
        fault(text + " b", 240, 1);
        fault("b" + text.substring(0, 226) + "abcdefghijklm", 239, 2);
        fault(text.substring(0, 228) + "abcdefghijklm", 240, 1);
        fault(text + " ###", 240, 1);
        fault("#" + text, 0, 1);
    }

    private static void slots() {
        RhymeRing x = new RhymeRing();
        Check.rhyme(x, 0, "a  b");
        int[] wrong = {-1, 6, Integer.MIN_VALUE, Integer.MAX_VALUE};
        for (int s : wrong) {
            CHECK.due("no such SLOT " + s, Check.rhyme(x, s, "a b"), -300);
            CHECK.due("the FAULT is the one before", x.fault(), 1);
            CHECK.due("the tape is empty", x.told(3), 0);
        }
        for (int s = 0; s < 6; s++) {
            CHECK.due("SLOT " + s, Check.rhyme(x, s, "a/b"), 2);
        }
        CHECK.due("six RHYMES", x.told(0), 6);
        CHECK.due("a FAULT", Check.rhyme(x, 3, "a/"), -3);
        CHECK.due("the RHYME stays", x.counted(3, false), 2);
        CHECK.due("another RHYME", Check.rhyme(x, 3, "a a a"), 1);
        CHECK.due("it is in its place", x.counted(3, false), 3);
        x.born(3, 9);
        x.born(2, 9);
        CHECK.due("of DAY 9", x.parent(3), 0);
        Check.rhyme(x, 3, "a a a");
        CHECK.due("of DAY 0 again", x.parent(3), -1);
        CHECK.due("fault 0", x.fault(), 0);
    }

    private static void forget() {
        RhymeRing x = new RhymeRing();
        Check.rhyme(x, 4, "a");
        CHECK.due("forget", x.forget(4), true);
        CHECK.due("forget again", x.forget(4), false);
        CHECK.due("it is empty", x.counted(4, true), -1);
        CHECK.due("no feet", x.feet(4, 0), -1);
        CHECK.due("none told", x.told(0), 0);
        CHECK.due("forget -1", x.forget(-1), false);
        CHECK.due("forget 6", x.forget(6), false);
        CHECK.due("again a RHYME", Check.rhyme(x, 4, "b"), 1);
        CHECK.due("it is there", x.counted(4, true), 1);
    }

    private static void counted() {
        RhymeRing x = new RhymeRing();
        Check.rhyme(x, 0, "apple out! - @ ?");
        CHECK.due("by words", x.counted(0, false), 4);
        CHECK.due("by beats", x.counted(0, true), 6);
        Check.rhyme(x, 0, "3x apple -/2x b! @/moe");
        CHECK.due("TIMES by words", x.counted(0, false), 3 + 2 + 1);
        CHECK.due("TIMES by beats", x.counted(0, true), 9 + 2 + 2);
        Check.rhyme(x, 0, "@ ?");
        CHECK.due("a name by words", x.counted(0, false), 0);
        CHECK.due("a name by beats", x.counted(0, true), 0);
        CHECK.due("no RHYME", x.counted(1, true), -1);
        CHECK.due("no SLOT 6", x.counted(6, true), -1);
        CHECK.due("no SLOT -1", x.counted(-1, false), -1);
    }

    private static void feet() {
        RhymeRing x = new RhymeRing();
        Check.rhyme(x, 2, "3x banana out! -/@ b -/apple ?");
        CHECK.due("LINE 0, said once", x.feet(2, 0), 7);
        CHECK.dueOut("LINE 0", x, "1001110");
        CHECK.due("LINE 1", x.feet(2, 1), 3);
        CHECK.dueOut("LINE 1", x, "110");
        CHECK.due("LINE 2, its ask is 0", x.feet(2, 2), 2);
        CHECK.dueOut("LINE 2", x, "10");
        Check.rhyme(x, 1, "a/?");
        CHECK.due("an ask alone", x.feet(1, 1), 0);
        CHECK.dueOut("an ask alone", x, "");
        Check.tongue(x, "strong last;");
        x.feet(2, 0);
        CHECK.dueOut("strong last", x, "0011110");
    }

    private static void feetStay() {
        RhymeRing x = new RhymeRing();
        Check.rhyme(x, 0, "apple");
        x.feet(0, 0);
        CHECK.due("no LINE 1", x.feet(0, 1), -1);
        CHECK.due("no LINE -1", x.feet(0, -1), -1);
        CHECK.due("no LINE 16", x.feet(0, 16), -1);
        CHECK.due("no RHYME", x.feet(1, 0), -1);
        CHECK.due("no SLOT", x.feet(6, 0), -1);
        x.alike(0, 0);
        CHECK.dueOut("OUT stays", x, "10");
        x.forget(0);
        CHECK.dueOut("OUT stays without its RHYME", x, "10");
    }

    private static void alike() {
        RhymeRing x = new RhymeRing();
        Check.rhyme(x, 0, "apple b/2x @ -/c");
        Check.rhyme(x, 1, "over z/b/c");
        Check.rhyme(x, 2, "over z/2x d -/apple");
        Check.rhyme(x, 3, "over z/2x d -/c/c");
        Check.rhyme(x, 4, "over z/3x d -/c");
        Check.rhyme(x, 5, "b apple/2x @ -/c");
        CHECK.due("the first LINE alone", x.alike(0, 1), 1);
        CHECK.due("two LINES", x.alike(0, 2), 2);
        CHECK.due("all of the shorter one", x.alike(0, 3), 3);
        CHECK.due("not said as often", x.alike(0, 4), 1);
        CHECK.due("none, though others are alike", x.alike(0, 5), 0);
        CHECK.due("the other way", x.alike(3, 0), 3);
        CHECK.due("with itself", x.alike(3, 3), 4);
        x.forget(5);
        CHECK.due("no RHYME t", x.alike(0, 5), -1);
        CHECK.due("no RHYME s", x.alike(5, 0), -1);
        CHECK.due("no SLOT", x.alike(0, 6), -1);
        CHECK.due("no SLOT -1", x.alike(-1, 0), -1);
    }

    /** RHYMES and NAMES are COUNTED by THE TONGUE of now, not by that of their coming. */
    private static void tongueOfNow() {
        RhymeRing x = new RhymeRing();
        Check.rhyme(x, 0, "apple tea");
        CHECK.due("as usual", x.counted(0, true), 4);
        Check.tongue(x, "joined ea;mute e;");
        CHECK.due("by another TONGUE", x.counted(0, true), 2);
        Check.tongue(x, "mute apple;");
        CHECK.due("a FAULT, as before", x.counted(0, true), 2);
        Check.people(x, "moe ann");
        Check.rhyme(x, 0, "@");
        CHECK.due("moe is one BEAT", Check.play(x), 2);
        Check.tongue(x, "");
        CHECK.due("moe is two BEATS", Check.play(x), 1);
    }
}
