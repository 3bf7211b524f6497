/**
 * The edges that the document names for DAYS, CHANGES, PARENTS and mixtures: promises 11 and 26 to
 * 28. Each method holds what it quotes.
 */
public final class VersionEdgeTest {
    private static final Check CHECK = new Check("VersionEdgeTest");
    private static final int TERMS = Sentences.TERMS;
    private static final int[] NO_SLOTS = {-1, 6, 7, -300, Integer.MIN_VALUE, Integer.MAX_VALUE};

    public static void main(String[] args) {
        days();
        noDay();
        linesLeftOut();
        linesLedToOthers();
        linesInOrder();
        greatChanges();
        noChanges();
        lesserDay();
        fewestChanges();
        likeOnes();
        noParent();
        cut();
        anyLines();
        unlikeRhymes();
        lesserDays();
        mixturesOfLikeOnes();
        noMixture();
        CHECK.close();
    }

    private static String times(int times, String part) {
        StringBuilder text = new StringBuilder();
        for (int i = 0; i < times; i++) {
            text.append(part);
        }
        return text.toString();
    }

    /** RHYMES in SLOTS 0 on, each with its DAY, told behind it. */
    private static RhymeRing made(Object... rhymesAndDays) {
        RhymeRing x = new RhymeRing();
        for (int i = 0; i < rhymesAndDays.length; i += 2) {
            String rhyme = (String) rhymesAndDays[i];
            int day = (Integer) rhymesAndDays[i + 1];
            CHECK.due("rhyme " + rhyme, Check.rhyme(x, i / 2, rhyme) > 0, true);
            CHECK.due("born " + day, x.born(i / 2, day), true);
        }
        return x;
    }

    // ---- DAYS

    /** The RHYME of SLOT 0 is of this DAY: one of a DAY more has it as its PARENT. */
    private static void dueDay(String what, RhymeRing x, int day) {
        Check.rhyme(x, 1, "z");
        x.born(1, day);
        CHECK.due(what + ", not of a lesser DAY than " + day, x.parent(1), -1);
        if (day < 999) {
            x.born(1, day + 1);
            CHECK.due(what + ", of a lesser DAY than " + (day + 1), x.parent(1), 0);
        }
        x.forget(1);
    }

    private static void days() {
        CHECK.by(11, "The RHYME of SLOT s is of a DAY: true");
        CHECK.by(TERMS, "A RHYME has a DAY (0 to 999).");
        RhymeRing x = new RhymeRing();
        Check.rhyme(x, 0, "a");
        dueDay("at first", x, 0);
        for (int day : new int[] {0, 1, 2, 500, 998, 999, 0, 999}) {
            CHECK.due("born " + day, x.born(0, day), true);
            dueDay("born " + day, x, day);
        }
        for (int s = 0; s < 6; s++) {
            Check.rhyme(x, s, "a");
            CHECK.due("born in SLOT " + s, x.born(s, s), true);
        }
    }

    private static void noDay() {
        CHECK.by(11, "false: no RHYME, or it is not as told");
        RhymeRing x = new RhymeRing();
        CHECK.due("no RHYME", x.born(0, 0), false);
        Check.rhyme(x, 0, "a");
        x.born(0, 5);
        int[] wrong = {-1, 1000, 1001, 1024, 65541, Integer.MIN_VALUE, Integer.MAX_VALUE};
        for (int day : wrong) {
            CHECK.due("born " + day, x.born(0, day), false);
            dueDay("behind " + day, x, 5);
        }
        for (int s : NO_SLOTS) {
            CHECK.due("no SLOT " + s, x.born(s, 7), false);
        }
        for (int s = 1; s < 6; s++) {
            CHECK.due("no RHYME in SLOT " + s, x.born(s, 7), false);
        }
        dueDay("behind all these", x, 5);
        x.forget(0);
        CHECK.due("forgotten", x.born(0, 7), false);
        Check.rhyme(x, 0, "a");
        dueDay("a new one", x, 0);
    }

    // ---- CHANGES

    private static void dueChanges(String one, String other, int want) {
        RhymeRing x = made(one, 0, other, 0);
        CHECK.due(one + " to " + other, x.changes(0, 1), want);
        CHECK.due(other + " to " + one, x.changes(1, 0), want);
        CHECK.due(one + " to itself", x.changes(0, 0), 0);
        CHECK.due(other + " to itself", x.changes(1, 1), 0);
    }

    private static void linesLeftOut() {
        CHECK.by(TERMS, "a LINE left out or put in costs as many as it has ITEMS (TIMES are one, "
            + "too)");
        dueChanges("a", "a/b", 1);
        dueChanges("a", "a/b c d", 3);
        dueChanges("a", "a/2x b", 2);
        dueChanges("a", "9x b c/a", 3);
        dueChanges("a", "a/?", 1);
        dueChanges("a", "a/- @ b! ?", 4);
        dueChanges("a b c", "a b c/d/e f", 3);
        dueChanges("d/a b c/e f", "a b c", 3);
        dueChanges("a a a/b b b/c c c", "b b b", 6);
    }

    private static void linesLedToOthers() {
        CHECK.by(TERMS, "one led to another one costs the fewest ITEMS left out, put in, or changed "
            + "to another");
        dueChanges("a", "a", 0);
        dueChanges("a", "b", 1);
        dueChanges("a", "aa", 1);
        dueChanges("ab", "a", 1);
        dueChanges("a b", "a", 1);
        dueChanges("a b", "b", 1);
        dueChanges("a b c", "b c d", 2);
        dueChanges("a b c d", "b a d c", 3);
        dueChanges("a x b", "a b", 1);
        dueChanges("a b", "c d", 2);
        dueChanges("a", "b c", 2);
        dueChanges("a", "a!", 1);
        dueChanges("a!", "a! ?", 1);
        dueChanges("a -", "a @", 1);
        dueChanges("2x a", "9x a", 1);
        dueChanges("2x a", "a", 1);
        dueChanges("2x a", "a a", 1);
        dueChanges("2x a b", "a b b", 2);
        dueChanges("x a", "2x a", 1);
    }

    private static void linesInOrder() {
        CHECK.by(TERMS, "the least sum of costs to lead its LINES, in order, to those of the other "
            + "one");
        dueChanges("a b/c d", "c d/a b", 4);
        dueChanges("a/b", "b/a", 2);
        dueChanges("a b", "a/b", 2);
        dueChanges("a b c/d e f", "d e f", 3);
        dueChanges("a b c/d e f", "a b d/d e g", 2);
        dueChanges("a b/c d/e f", "c d/e f/a b", 4);
        // Rather both LINES changed than one of many ITEMS put in.
        dueChanges("a/b b b", "b/c b b", 2);
    }

    private static void greatChanges() {
        CHECK.by(26, "CHANGES from the RHYME of SLOT s to that of t");
        String many = "b" + times(119, " b");
        dueChanges(many, many, 0);
        dueChanges(many, "b", 119);
        dueChanges(many, "a", 120);
        dueChanges(many, "c" + times(119, " c"), 120);
        dueChanges("a" + times(118, " b") + " c", "c" + times(118, " b") + " a", 2);
        dueChanges("a" + times(119, " b"), "b" + times(118, " b") + " a", 2);
        dueChanges("a" + times(15, "/a"), "b" + times(15, "/b"), 16);
        dueChanges("a" + times(15, "/a"), "a", 15);
        dueChanges("a" + times(14, "/b") + "/c", "c" + times(14, "/b") + "/a", 2);
        dueChanges("a a" + times(15, "/a a"), "b b b" + times(15, "/b b b"), 48);
        dueChanges("q q q" + times(15, "/a b c"), "a b c" + times(14, "/a b c") + "/q q q", 6);
        dueChanges(many, "b" + times(15, "/b"), 119 + 15);
    }

    private static void noChanges() {
        CHECK.by(26, "NONE: there are not both");
        RhymeRing x = new RhymeRing();
        Check.rhyme(x, 3, "a");
        for (int s = 0; s < 6; s++) {
            CHECK.due("3 to " + s, x.changes(3, s), s == 3 ? 0 : -1);
            CHECK.due(s + " to 3", x.changes(s, 3), s == 3 ? 0 : -1);
            CHECK.due(s + " to itself", x.changes(s, s), s == 3 ? 0 : -1);
        }
        for (int s : NO_SLOTS) {
            CHECK.due("3 to " + s, x.changes(3, s), -1);
            CHECK.due(s + " to 3", x.changes(s, 3), -1);
            CHECK.due(s + " to itself", x.changes(s, s), -1);
        }
        x.forget(3);
        CHECK.due("forgotten", x.changes(3, 3), -1);
    }

    // ---- PARENTS

    private static void lesserDay() {
        CHECK.by(TERMS, "PARENT: of the RHYMES with a lesser DAY");
        RhymeRing x = made("a b c", 5, "a b c", 5, "a b", 4, "a", 3, "q", 0, "a b c", 6);
        int[] due = {2, 2, 3, 4, -1, 0};
        for (int s = 0; s < due.length; s++) {
            CHECK.due("parent " + s, x.parent(s), due[s]);
        }
        x.born(5, 0);
        CHECK.due("a like one of a lesser DAY", x.parent(0), 5);
        x.born(5, 4);
        CHECK.due("of one DAY less", x.parent(0), 5);
        x.born(5, 5);
        CHECK.due("not of the same DAY", x.parent(0), 2);
        x.born(0, 999);
        x.born(5, 998);
        CHECK.due("of DAY 998", x.parent(0), 1);
        x.forget(1);
        CHECK.due("of DAY 998", x.parent(0), 5);
    }

    private static void fewestChanges() {
        CHECK.by(TERMS, "the one with the fewest CHANGES");
        RhymeRing x =
            made("a b c d", 1, "a b c x", 2, "a b x x", 3, "a x x x", 4, "x x x x", 5, "a", 0);
        int[] due = {5, 0, 1, 2, 3, -1};
        for (int s = 0; s < due.length; s++) {
            CHECK.due("parent " + s, x.parent(s), due[s]);
        }
        x = made("b" + times(119, " b"), 1, "a", 0);
        CHECK.due("one of very many CHANGES", x.parent(0), 1);
    }

    private static void likeOnes() {
        CHECK.by(TERMS, "of like ones the least SLOT");
        RhymeRing x = made("a b", 1, "a c", 2, "a d", 0, "a a", 9, "e a", 2, "f a", 3);
        CHECK.due("of five", x.parent(3), 0);
        x.forget(0);
        CHECK.due("of four", x.parent(3), 1);
        x.forget(1);
        CHECK.due("of three", x.parent(3), 2);
        x.forget(2);
        CHECK.due("of two", x.parent(3), 4);
        x.forget(4);
        CHECK.due("of one", x.parent(3), 5);
    }

    private static void noParent() {
        CHECK.by(27, "NONE: none");
        RhymeRing x = made("a", 5, "a", 5, "a", 6, "a", 999);
        CHECK.due("none with a lesser DAY", x.parent(0), -1);
        CHECK.due("none with a lesser DAY", x.parent(1), -1);
        x.forget(0);
        x.forget(1);
        CHECK.due("all of them forgotten", x.parent(2), -1);
        for (int s : new int[] {0, 1, 4, 5}) {
            CHECK.due("no RHYME in SLOT " + s, x.parent(s), -1);
        }
        for (int s : NO_SLOTS) {
            CHECK.due("no SLOT " + s, x.parent(s), -1);
        }
        x.forget(2);
        CHECK.due("one alone", x.parent(3), -1);
    }

    // ---- mixtures

    /** CHANGES, a, b and i. */
    private static void dueMixed(String what, RhymeRing x, int s, int... want) {
        for (int i = 0; i < 4; i++) {
            CHECK.due(what + " mixed " + i, x.mixed(s, i), want[i]);
        }
    }

    private static void cut() {
        CHECK.by(TERMS, "a cut behind the first i LINES of it (1 at least, not all)");
        // All LINES of the child are the first one's, but for one that is the second one's.
        dueMixed("two LINES", made("a", 0, "b", 0, "a/b", 1), 2, 0, 0, 1, 1);
        for (int i = 1; i < 16; i++) {
            String ahead = "a a" + times(i - 1, "/a a");
            String behind = "b b" + times(15 - i, "/b b");
            dueMixed("cut " + i, made(ahead, 0, behind, 0, ahead + "/" + behind, 1), 2, 0, 0, 1, i);
            dueMixed("cut " + i + ", b ahead", made(behind, 0, ahead, 0, ahead + "/" + behind, 1),
                2, 0, 1, 0, i);
        }
        // Not none, and not all: one LINE at least is of the other one, which has none such.
        RhymeRing x = made("a a/b b/c c", 0, "q q q q q", 0, "a a/b b/c c", 1);
        dueMixed("not all", x, 2, 2, 0, 1, 2);
        x = made("q q q q q", 0, "a a/b b/c c", 0, "a a/b b/c c", 1);
        dueMixed("1 at least", x, 2, 2, 0, 1, 1);
    }

    private static void anyLines() {
        CHECK.by(TERMS, "the least CHANGES from any first LINES of a (none, or all, too) to those "
            + "ahead of the cut, and from any last LINES of b to those behind it, together");
        String qs = "q q q q/r r r r";
        String ss = "s s s s/t t t t";
        dueMixed("none of both", made(qs, 0, ss, 0, "a/b", 1), 2, 2, 0, 1, 1);
        dueMixed("all of both", made(qs, 0, ss, 0, qs + "/" + ss, 1), 2, 0, 0, 1, 2);
        dueMixed("the first one and the last one",
            made(qs, 0, ss, 0, "q q q q/t t t t", 1), 2, 0, 0, 1, 1);
        // Last LINES of a, or first ones of b, are nothing to it.
        dueMixed("not the last one of a", made(qs, 0, "t t t t", 0, "r r r r/t t t t", 1), 2, 4, 0,
            1, 1);
        dueMixed("not the first one of b", made("q q q q", 0, ss, 0, "q q q q/s s s s", 1), 2, 4,
            0, 1, 1);
        dueMixed("none of a alone", made("q q q", 0, "b b/c c", 0, "a/b b/c c", 1), 2, 1, 0, 1, 1);
        dueMixed("none of b alone", made("a a/b b", 0, "q q q", 0, "a a/b b/c", 1), 2, 1, 0, 1, 2);
        String many = "a/b/c/d/e/f/g/h/i/j/k/l/m/n/o";
        dueMixed("fifteen of sixteen of a",
            made(many + "/q q", 0, "z z", 0, many + "/z z", 1), 2, 0, 0, 1, 15);
        dueMixed("all sixteen of a", made("q/" + many, 0, "z z", 0, many + "/z z", 1), 2, 1, 0, 1,
            15);
        dueMixed("fifteen of sixteen of b",
            made("z z", 0, "q q/" + many, 0, "z z/" + many, 1), 2, 0, 0, 1, 1);
        dueMixed("all sixteen of b", made("z z", 0, many + "/q", 0, "z z/" + many, 1), 2, 1, 0, 1,
            1);
        dueMixed("more LINES of a than it has",
            made("q/r/a b c d", 0, "z z", 0, "a b c d/z z", 1), 2, 2, 0, 1, 1);
        dueMixed("more LINES of b than it has",
            made("z z", 0, "a b c d/q/r", 0, "z z/a b c d", 1), 2, 2, 0, 1, 1);
        dueMixed("TIMES are one, too", made("2x a", 0, "b", 0, "3x a/c/b", 1), 2, 2, 0, 1, 1);
    }

    private static void unlikeRhymes() {
        CHECK.by(TERMS, "MIXED: of two unlike RHYMES a and b");
        RhymeRing x = made("a/b", 0, "a/b", 1);
        dueMixed("one alone", x, 1, -1, -1, -1, -1);
        x = made("a/b", 0, "q q q q", 0, "a/b", 1);
        dueMixed("not twice the same", x, 2, 1, 0, 1, 1);
        x = made("q q q q", 0, "q q q q", 0, "q q q q", 0, "a/b", 0, "q q q q", 0, "a/b", 1);
        dueMixed("not twice SLOT 3", x, 5, 1, 0, 3, 1);
    }

    private static void lesserDays() {
        CHECK.by(TERMS, "of two unlike RHYMES a and b with lesser DAYS");
        RhymeRing x = made("a/b", 5, "a", 3, "b", 4, "a", 5, "b", 6);
        dueMixed("lesser DAYS", x, 0, 0, 1, 2, 1);
        x.born(1, 5);
        dueMixed("one of the same DAY", x, 0, -1, -1, -1, -1);
        x.born(0, 6);
        dueMixed("three of lesser DAYS", x, 0, 0, 1, 2, 1);
        x.born(0, 7);
        x.forget(1);
        dueMixed("one forgotten", x, 0, 0, 3, 2, 1);
        x.forget(2);
        dueMixed("two forgotten", x, 0, 0, 3, 4, 1);
        x.born(0, 999);
        x.born(3, 998);
        x.born(4, 999);
        dueMixed("of DAY 998 alone", x, 0, -1, -1, -1, -1);
        x.born(4, 998);
        dueMixed("both of DAY 998", x, 0, 0, 3, 4, 1);
    }

    private static void mixturesOfLikeOnes() {
        CHECK.by(TERMS, "of like ones the least a, then b, then i");
        RhymeRing x = made("z z z", 0, "z z z", 0, "z z z", 0, "z z z", 0, "z z z", 0, "a/b/c", 1);
        dueMixed("all are alike", x, 5, 3, 0, 1, 1);
        x = made("z z z", 0, "c", 0, "a", 0, "c", 0, "a", 0, "a/b/c", 1);
        dueMixed("the least a", x, 5, 1, 2, 1, 1);
        x.forget(1);
        dueMixed("then b", x, 5, 1, 2, 3, 1);
        x.forget(2);
        dueMixed("the other a", x, 5, 1, 4, 3, 1);
        // Behind one LINE b is put in, behind two as well: the least i is told.
        x = made("a/b", 0, "b/c", 0, "a/b/c", 1);
        dueMixed("then i", x, 2, 0, 0, 1, 1);
        x = made("b", 0, "a", 0, "b", 0, "a", 0, "a/b", 1);
        dueMixed("a, then b", x, 4, 0, 1, 0, 1);
        x.forget(0);
        dueMixed("a, then the other b", x, 4, 0, 1, 2, 1);
    }

    private static void noMixture() {
        CHECK.by(28, "NONE: there are no two such, it has one LINE, no RHYME, or another what.");
        RhymeRing x = made("a", 0, "b", 0, "a/b", 1, "a b", 1);
        dueMixed("two such", x, 2, 0, 0, 1, 1);
        dueMixed("no two such", x, 0, -1, -1, -1, -1);
        dueMixed("it has one LINE", x, 3, -1, -1, -1, -1);
        for (int s = 4; s < 6; s++) {
            dueMixed("no RHYME in SLOT " + s, x, s, -1, -1, -1, -1);
        }
        for (int s : NO_SLOTS) {
            dueMixed("no SLOT " + s, x, s, -1, -1, -1, -1);
        }
        for (int what : new int[] {-1, 4, 5, Integer.MIN_VALUE, Integer.MAX_VALUE}) {
            CHECK.due("mixed " + what, x.mixed(2, what), -1);
        }
        x.forget(0);
        dueMixed("one such", x, 2, -1, -1, -1, -1);
        x.forget(1);
        dueMixed("none such", x, 2, -1, -1, -1, -1);
        x.forget(2);
        dueMixed("forgotten", x, 2, -1, -1, -1, -1);
    }
}
