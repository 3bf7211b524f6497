/** Promises 21 to 25: those who see ahead, what one is sure of, shares and how to mend them. */
public final class GameTest {
    private static final Check CHECK = new Check("GameTest");

    public static void main(String[] args) {
        free();
        aimLeft();
        stays();
        firstAsk();
        overAtOnce();
        noGame();
        sure();
        shares();
        sharesOfMany();
        noShare();
        mend();
        mendWhereUsed();
        noMend();
        CHECK.close();
    }

    /** ann, bob and cy, of whom x leads to the next one and yy to the one behind that. */
    private static RhymeRing three(String yard) {
        RhymeRing x = new RhymeRing();
        Check.people(x, "ann bob cy");
        Check.answers(x, "x yy");
        Check.rhyme(x, 0, "a ?");
        Check.yard(x, yard);
        return x;
    }

    /** x: bob goes, cy is asked (x: ann goes, yy: cy); yy: cy goes, ann is (x: bob, yy: ann). */
    private static void free() {
        RhymeRing x = three("");
        CHECK.due("none sees", x.game(0), 4);
        CHECK.due("none sees, says", x.says(0), 0);
        CHECK.due("all see", x.game(7), 2);
        CHECK.due("all see, says", x.says(7), 1);
        CHECK.due("ann sees: x, and cy x", x.game(1), 4);
        CHECK.due("ann sees, says", x.says(1), 0);
        CHECK.due("cy sees: ann x, and cy yy", x.game(4), 1);
        CHECK.due("bob is not asked", x.game(2), 4);
        CHECK.due("a game is no PLAY", x.told(5), 0);
    }

    private static void aimLeft() {
        RhymeRing x = three("aim left;");
        CHECK.due("none sees", x.game(0), 4);
        CHECK.due("ann sees: yy, x", x.game(1), 1);
        CHECK.due("ann sees, says", x.says(1), 1);
        CHECK.due("cy sees", x.game(4), 4);
        CHECK.due("cy sees, ann says", x.says(4), 0);
        CHECK.due("all see", x.game(7), 1);
        CHECK.due("all see, ann says", x.says(7), 1);
    }

    private static void stays() {
        RhymeRing x = three("hit stays;aim left;");
        CHECK.due("one ANSWER alone", x.game(0), 2);
        CHECK.due("none meets the aim: the first of all", x.game(1), 2);
        CHECK.due("says the first of all", x.says(1), 0);
        Check.answers(x, "x xxx yyy");
        CHECK.due("the first by which it is met", x.game(1), 1);
        CHECK.due("says it", x.says(1), 1);
        Check.rhyme(x, 0, "a");
        CHECK.due("without an ask", x.game(7), 1);
        CHECK.due("no ask", x.says(7), -1);
    }

    private static void firstAsk() {
        RhymeRing x = three("rhymes 1 0;aim left;");
        Check.rhyme(x, 1, "one");
        CHECK.due("bob goes, cy is asked", x.game(4), 4);
        CHECK.due("cy says x", x.says(4), 0);
        Check.rhyme(x, 1, "a");
        CHECK.due("ann goes, bob is asked", x.game(2), 2);
        CHECK.due("bob says x", x.says(2), 0);
        Check.yard(x, "rhymes 1 0;");
        CHECK.due("bob is free by yy", x.game(2), 4);
        CHECK.due("bob says yy", x.says(2), 1);
        Check.people(x, "ann bob cy dee");
        Check.answers(x, "x yy zzz");
        Check.yard(x, "rhymes 1 0;hit out;left 2;aim left;turn always;");
        CHECK.due("ann goes, dee is asked, the other way", x.says(8), 0);
        Check.yard(x, "rhymes 1 0;left 2;turn always;");
        CHECK.due("dee is free by zzz alone", x.says(8), 2);
        CHECK.due("bob is not asked", x.says(2), 0);
        Check.people(x, "ann bob cy");
        Check.answers(x, "x yy");
        Check.yard(x, "rhymes 1 0;left 2;");
        CHECK.due("it ends ahead of the ask", x.game(2), 6);
        CHECK.due("no ask", x.says(2), -1);
    }

    private static void overAtOnce() {
        RhymeRing x = three("left 3;");
        CHECK.due("all LEFT at once", x.game(7), 7);
        CHECK.due("no ask", x.says(7), -1);
        CHECK.due("none is free", x.sure(0), 0);
        CHECK.due("upper", Check.share(x, 2, 0), 1);
        CHECK.due("lower", Check.share(x, 2, 1), 1);
        CHECK.due("even", x.mend(), 0);
        Check.yard(x, "left 3;aim left;");
        CHECK.due("all are LEFT", x.sure(2), 1);
    }

    private static void noGame() {
        RhymeRing x = three("");
        int[] wrong = {8, 9, -1, 1 << 12, Integer.MIN_VALUE, Integer.MAX_VALUE};
        for (int see : wrong) {
            CHECK.due("game " + see, x.game(see), -1);
            CHECK.due("says " + see, x.says(see), -1);
        }
        Check.yard(x, "rhymes 0 1;");
        dueNone("a RHYME is not there", x);
        Check.yard(x, "left 9;rhymes 5;");
        dueNone("not there, though all are LEFT at once", x);
        Check.yard(x, "by fists;");
        Check.people(x, "a b c d e");
        dueNone("ten HANDS", x);
        Check.people(x, "a b c d");
        CHECK.due("eight HANDS", x.game(0) > 0, true);
        Check.yard(x, "");
        Check.people(x, "a b c d e f g h i");
        dueNone("nine HANDS", x);
        Check.people(x, "a b c d e f g h");
        CHECK.due("eight HEADS", x.game(255) > 0, true);
        CHECK.due("no ninth", x.game(256), -1);
    }

    private static void dueNone(String what, RhymeRing x) {
        CHECK.due(what + " game", x.game(0), -1);
        CHECK.due(what + " says", x.says(0), -1);
        CHECK.due(what + " sure", x.sure(0), -1);
        CHECK.due(what + " share", Check.share(x, 0, 1), Check.THROWN);
        CHECK.due(what + " mend", x.mend(), -1);
    }

    private static void sure() {
        RhymeRing x = three("");
        CHECK.due("ann: yy, yy", x.sure(0), 1);
        CHECK.due("bob is not asked", x.sure(1), 0);
        CHECK.due("cy: yy, if asked", x.sure(2), 1);
        Check.yard(x, "aim left;");
        CHECK.due("ann: yy, x", x.sure(0), 1);
        CHECK.due("bob", x.sure(1), 0);
        CHECK.due("cy goes by ann's yy", x.sure(2), 0);
        CHECK.due("no such one", x.sure(3), -1);
        CHECK.due("sure -1", x.sure(-1), -1);
        CHECK.due("sure of the greatest", x.sure(Integer.MAX_VALUE), -1);
    }

    private static void dueShare(RhymeRing x, int p, int upper, int lower) {
        CHECK.due("upper one of " + p, Check.share(x, p, 0), upper);
        CHECK.due("lower one of " + p, Check.share(x, p, 1), lower);
    }

    private static void shares() {
        RhymeRing x = three("");
        dueShare(x, 0, 1, 2);
        dueShare(x, 1, 1, 4);
        dueShare(x, 2, 1, 4);
        Check.yard(x, "hit stays;");
        dueShare(x, 0, 0, 1);
        dueShare(x, 1, 1, 2);
        Check.yard(x, "left 2;");
        dueShare(x, 0, 1, 1);
        dueShare(x, 1, 1, 2);
        Check.answers(x, "x yy zzzz");
        Check.yard(x, "hit stays;");
        dueShare(x, 1, 2, 3);
        dueShare(x, 2, 1, 3);
        Check.rhyme(x, 0, "a");
        Check.yard(x, "");
        dueShare(x, 0, 0, 1);
        dueShare(x, 2, 1, 1);
        Check.answers(x, "x");
        dueShare(x, 0, 0, 1);
        dueShare(x, 2, 1, 1);
    }

    /** Seven asks of five ANSWERS: SHARES in parts of 5 to the seventh, together 1. */
    private static void sharesOfMany() {
        RhymeRing x = new RhymeRing();
        Check.people(x, "a b c d e f g h");
        Check.answers(x, "x yy zzz xxxx yyyyyyy");
        Check.rhyme(x, 0, "one two ?");
        long sum = 0;
        for (int p = 0; p < 8; p++) {
            long lower = Check.share(x, p, 1);
            CHECK.due("a part of 78125", 78125 % lower, 0);
            sum += Check.share(x, p, 0) * (78125 / lower);
        }
        CHECK.due("one is LEFT", sum, 78125);
        Oracle o = new Oracle();
        o.people = java.util.List.of("a", "b", "c", "d", "e", "f", "g", "h");
        o.answers = java.util.List.of("x", "yy", "zzz", "xxxx", "yyyyyyy");
        o.slots[0] = "one two ?";
        CHECK.due("of the fourth one, upper", Check.share(x, 3, 0), o.share(3, 0));
        CHECK.due("of the fourth one, lower", Check.share(x, 3, 1), o.share(3, 1));
    }

    private static void noShare() {
        RhymeRing x = three("");
        int[][] wrong = {{3, 0}, {-1, 0}, {0, 2}, {0, -1}, {0, Integer.MAX_VALUE},
            {Integer.MIN_VALUE, 1}};
        for (int[] pair : wrong) {
            CHECK.due("share " + pair[0] + " " + pair[1], Check.share(x, pair[0], pair[1]),
                Check.THROWN);
        }
    }

    private static void mend() {
        RhymeRing x = three("");
        Check.people(x, "a b");
        CHECK.due("even without rests", x.mend(), 0);
        Check.yard(x, "by fists;");
        CHECK.due("four rests", x.mend(), 4);
        CHECK.due("the RHYME stays", x.counted(0, true), 1);
        CHECK.due("so its SHARES are not even", Check.share(x, 0, 1) == 2, false);
        Check.rhyme(x, 0, "a - - - ?");
        CHECK.due("one rest more", x.mend(), 1);
        Check.rhyme(x, 0, "a - - - - ?");
        CHECK.due("as many as are told", x.mend(), 0);
        // Of two HITS the first falls on b or d; two rests let the second fall on all alike.
        x = three("left 2;");
        Check.people(x, "a b c d");
        Check.answers(x, "x yyy");
        CHECK.due("two rests", x.mend(), 2);
        CHECK.due("a is LEFT more often", Check.share(x, 0, 0), 3);
    }

    private static void mendWhereUsed() {
        RhymeRing x = three("rhymes 0 1;");
        Check.people(x, "a b c d");
        Check.answers(x, "x yyy");
        Check.rhyme(x, 1, "a b ?");
        CHECK.due("in the first one", x.mend(), 1);
        Check.yard(x, "rhymes 1 0;");
        CHECK.due("in the first one of 'rhymes'", x.mend(), 1);
        Check.yard(x, "rhymes 0 1 0;");
        CHECK.due("wherever it is used", x.mend(), 1);
        // The rests stand behind the last saying of the LINE: one is enough to count three.
        Check.people(x, "a b c");
        Check.answers(x, "x yy zzzz");
        Check.rhyme(x, 1, "a ?");
        Check.yard(x, "rhymes 0 1;by fists;");
        Check.rhyme(x, 0, "2x a");
        CHECK.due("behind TIMES", x.mend(), 1);
        Check.rhyme(x, 0, "a");
        CHECK.due("the same in one LINE", x.mend(), 2);
    }

    private static void noMend() {
        RhymeRing x = three("");
        CHECK.due("three by two ANSWERS", x.mend(), -1);
        Check.rhyme(x, 0, "a");
        CHECK.due("without an ask", x.mend(), -1);
        Check.people(x, "a b");
        Check.answers(x, "x yyy");
        Check.rhyme(x, 0, "a ?");
        CHECK.due("both ANSWERS lead to one", x.mend(), -1);
        Check.people(x, "a b c d");
        Check.yard(x, "left 2;count words;");
        CHECK.due("by words a rest is 0", x.mend(), -1);
        Check.rhyme(x, 0, "a b ?");
        CHECK.due("by words one rest is 0", x.mend(), -1);
        Check.rhyme(x, 0, "a b c ?");
        CHECK.due("by words even at once", x.mend(), 0);
        Check.people(x, "a");
        CHECK.due("one alone", x.mend(), 0);
    }
}
