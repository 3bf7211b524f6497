/**
 * The edges that the document names for GAMES, what one is SURE of, SHARES, rests and RECORDS:
 * promises 21 to 25, 29 and 30. Each method holds what it quotes; b is one BEAT, and an ANSWER of
 * so many letters goes so many HANDS on.
 */
public final class GameEdgeTest {
    private static final Check CHECK = new Check("GameEdgeTest");
    private static final int TERMS = Sentences.TERMS;
    private static final String[] MANY = {"", "a", "a b", "a b c", "a b c d", "a b c d e",
        "a b c d e f", "a b c d e f g", "a b c d e f g h", "a b c d e f g h i",
        "a b c d e f g h i j", "a b c d e f g h i j k", "a b c d e f g h i j k l"};

    public static void main(String[] args) {
        handsAtMost();
        rhymesThere();
        bitsOfOthers();
        firstAnswerByWhich();
        firstAnswerOfAll();
        whoDoesNotSee();
        allOthersLater();
        leftAtOnce();
        gameTurns();
        gameTurnsTwice();
        gameBegins();
        gameCaller();
        noAsk();
        sureWhateverOthersAnswer();
        noSuchOne();
        shareAlikeLikely();
        shareWithoutCommonDivisor();
        shareOfMany();
        noShare();
        mendUpToForty();
        mendAtTheEnd();
        mendWhereUsed();
        mendNone();
        holdsUpTo();
        holdsByAnyAnswers();
        holdsToTheEnd();
        holdsNone();
        explainEach();
        explainNone();
        CHECK.close();
    }

    private static RhymeRing made(String people, String answers, String yard, String... rhymes) {
        RhymeRing x = new RhymeRing();
        CHECK.due("people " + people, Check.people(x, people) > 0, true);
        CHECK.due("answers " + answers, Check.answers(x, answers) > 0, true);
        for (int s = 0; s < rhymes.length; s++) {
            CHECK.due("rhyme " + rhymes[s], Check.rhyme(x, s, rhymes[s]) > 0, true);
        }
        CHECK.due("yard " + yard, Check.yard(x, yard) >= 0, true);
        return x;
    }

    private static String bs(int count) {
        StringBuilder text = new StringBuilder("b");
        for (int i = 1; i < count; i++) {
            text.append(" b");
        }
        return text.toString();
    }

    private static void dueGame(RhymeRing x, int see, int left, int says) {
        CHECK.due("game " + see, x.game(see), left);
        CHECK.due("says " + see, x.says(see), says);
    }

    private static void dueSure(RhymeRing x, int... sure) {
        for (int p = 0; p < sure.length; p++) {
            CHECK.due("sure " + p, x.sure(p), sure[p]);
        }
    }

    /** Of each of PEOPLE the upper number and the lower one. */
    private static void dueShares(RhymeRing x, int... shares) {
        for (int i = 0; i < shares.length; i++) {
            CHECK.due("share " + i / 2 + " " + i % 2, Check.share(x, i / 2, i % 2), shares[i]);
        }
    }

    /** Each call that asks for a GAME tells something, or NONE. */
    private static void dueThere(String what, RhymeRing x, boolean isThere) {
        CHECK.due(what + ": game", x.game(0) >= 0, isThere);
        CHECK.due(what + ": says", x.says(0) >= 0, isThere);
        CHECK.due(what + ": sure", x.sure(0) >= 0, isThere);
        CHECK.due(what + ": share", Check.share(x, 0, 1) >= 1, isThere);
        CHECK.due(what + ": mend", x.mend() >= 0, isThere);
        CHECK.due(what + ": holds", Check.holds(x, 0) >= 0, isThere);
    }

    // ---- what a GAME asks for

    private static void handsAtMost() {
        for (int n = 1; n <= 12; n++) {
            CHECK.by(TERMS, "GAMES, of 8 HANDS at most");
            RhymeRing x = made(MANY[n], "a", "hit stays;", "b ?");
            dueOfHands(n + " HEADS", x, n <= 8);
            Check.yard(x, "hit stays;by fists;");
            dueOfHands(n + " by fists", x, n <= 4);
            // All are LEFT at once, so that SHARES are EVEN without rests.
            Check.yard(x, "left 9;");
            CHECK.due(n + " HEADS: mend", x.mend(), n <= 8 ? 0 : -1);
            Check.yard(x, "left 9;by fists;");
            CHECK.due(n + " by fists: mend", x.mend(), n <= 4 ? 0 : -1);
        }
    }

    private static void dueOfHands(String what, RhymeRing x, boolean isGame) {
        CHECK.by(21, "NONE: more than 8 HANDS");
        CHECK.due(what + ": game", x.game(0) >= 0, isGame);
        CHECK.by(22, "NONE likewise");
        CHECK.due(what + ": says", x.says(0), isGame ? 0 : -1);
        CHECK.by(23, "NONE: as game()");
        CHECK.due(what + ": sure", x.sure(0) >= 0, isGame);
        CHECK.by(24, "NoSuchElementException: as sure()");
        CHECK.due(what + ": share", Check.share(x, 0, 1), isGame ? 1 : Check.THROWN);
        CHECK.by(29, "NONE: as game()");
        CHECK.due(what + ": holds", Check.holds(x), isGame ? 0 : -1);
        CHECK.by(30, "NONE: as holds()");
        CHECK.due(what + ": explain", Check.explain(x), isGame ? 1 : -1);
    }

    private static void rhymesThere() {
        CHECK.by(21, "a RHYME of 'rhymes' is not there");
        String[] orders = {"3", "0 3", "0 0 3", "0 0 0 3", "3 0", "0 3 0", "3 0 0 0", "5", "0 5"};
        for (String order : orders) {
            RhymeRing x = made("a b", "a bb", "rhymes " + order + ";", "b ?", "b ?", "b ?");
            dueThere("rhymes " + order, x, false);
            Check.rhyme(x, 3, "b ?");
            Check.rhyme(x, 5, "b ?");
            dueThere("all of rhymes " + order, x, true);
            x.forget(3);
            x.forget(5);
            dueThere("forgotten of rhymes " + order, x, false);
            Check.yard(x, "left 9;rhymes " + order + ";");
            dueThere("over at once, rhymes " + order, x, false);
        }
        dueThere("a new object", new RhymeRing(), false);
    }

    private static void bitsOfOthers() {
        CHECK.by(21, "or bits of others than PEOPLE");
        for (int n = 1; n <= 8; n++) {
            RhymeRing x = made(MANY[n], "a", "hit stays;", "b ?");
            int left = n == 1 ? 1 : 2;
            for (int see = 0; see < 1 << n; see++) {
                dueGame(x, see, left, 0);
            }
            int[] wrong = {1 << n, 1 << n | 1, (1 << n + 1) - 1, 1 << 8, 1 << 12, 1 << 30, -1, -2,
                Integer.MIN_VALUE, Integer.MAX_VALUE};
            for (int see : wrong) {
                dueGame(x, see, -1, -1);
            }
        }
    }

    // ---- those who SEE

    private static void firstAnswerByWhich() {
        CHECK.by(TERMS, "one who SEES gives the first ANSWER by which");
        RhymeRing x = made("a b", "a ccc bb dddd", "hit stays;aim left;", "b ?");
        dueGame(x, 1, 1, 2);
        dueGame(x, 3, 1, 2);
        Check.yard(x, "hit stays;aim free;");
        dueGame(x, 1, 2, 0);
        Check.answers(x, "bb dddd a ccc bb");
        dueGame(x, 1, 2, 2);
        Check.yard(x, "hit stays;aim left;");
        dueGame(x, 1, 1, 0);
        Check.answers(x, "a a a a bb");
        dueGame(x, 1, 1, 4);
    }

    private static void firstAnswerOfAll() {
        CHECK.by(TERMS, "the first ANSWER of all, if there is none");
        // None of the ANSWERS leads to a HAND of a: the first leads to b, the second to c.
        RhymeRing x = made("a b c", "a bb dddd", "hit stays;aim left;", "b ?");
        dueGame(x, 1, 2, 0);
        Check.answers(x, "bb a dddd");
        dueGame(x, 1, 4, 0);
        Check.answers(x, "ccc cccccc");
        Check.yard(x, "hit stays;aim free;");
        dueGame(x, 1, 1, 0);
        Check.answers(x, "ccc");
        dueGame(x, 1, 1, 0);
    }

    private static void whoDoesNotSee() {
        CHECK.by(TERMS, "who does not SEE gives the first one");
        RhymeRing x = made("a b", "a bb", "hit stays;aim left;", "b ?");
        dueGame(x, 0, 2, 0);
        dueGame(x, 2, 2, 0);
        Check.answers(x, "bb a");
        dueGame(x, 0, 1, 0);
        Check.yard(x, "hit stays;aim free;");
        dueGame(x, 0, 1, 0);
        dueGame(x, 2, 1, 0);
        dueGame(x, 1, 2, 1);
    }

    /**
     * a is asked first. By "a" b goes, and c is asked ("a": a goes, "bb": c goes); by "bb" c goes,
     * and a is asked ("a": b goes, "bb": a goes).
     */
    private static void allOthersLater() {
        CHECK.by(TERMS, "all others who SEE doing likewise later, one's aim is met (left: one is "
            + "LEFT at the end; free: not)");
        RhymeRing x = made("a b c", "a bb", "aim free;", "b ?");
        dueGame(x, 0, 4, 0);
        dueGame(x, 1, 4, 0);
        dueGame(x, 2, 4, 0);
        dueGame(x, 4, 1, 0);
        dueGame(x, 5, 2, 1);
        dueGame(x, 7, 2, 1);
        Check.yard(x, "aim left;");
        dueGame(x, 0, 4, 0);
        dueGame(x, 1, 1, 1);
        dueGame(x, 2, 4, 0);
        dueGame(x, 4, 4, 0);
        dueGame(x, 5, 1, 1);
        Check.answers(x, "bb a");
        // The first ANSWER is "bb" now: none who SEES is asked twice to the same.
        dueGame(x, 0, 2, 0);
        dueGame(x, 1, 1, 0);
        dueGame(x, 4, 2, 0);
        dueGame(x, 5, 1, 0);
    }

    private static void leftAtOnce() {
        CHECK.by(TERMS, "these are LEFT (so at once, if they are at first)");
        RhymeRing x = made("a b c", "a bb", "left 3;", "b ?");
        for (int see = 0; see < 8; see++) {
            dueGame(x, see, 7, -1);
        }
        dueSure(x, 0, 0, 0);
        dueShares(x, 1, 1, 1, 1, 1, 1);
        CHECK.due("mend", x.mend(), 0);
        CHECK.due("holds", Check.holds(x, 0), 0);
        CHECK.due("explain", Check.explain(x, 0), 0);
        CHECK.due("explain none HIT", Check.explain(x), 1);
        Check.yard(x, "left 4;aim left;");
        dueGame(x, 7, 7, -1);
        dueSure(x, 1, 1, 1);
        Check.yard(x, "left 2;");
        dueGame(x, 0, 5, 0);
    }

    /** a goes. Then back from d: d is asked, "a" leads to c, "bb" to b, "ccc" to d. */
    private static void gameTurns() {
        CHECK.by(TERMS, "With turn always one goes the other way round from then on, behind each "
            + "HIT.");
        RhymeRing x = made("a b c d", "a bb ccc", "rhymes 0 1;left 2;turn always;", "b", "b ?");
        dueGame(x, 0, 10, 0);
        dueGame(x, 8, 6, 2);
        dueGame(x, 7, 10, 0);
        dueSure(x, 1, 0, 0, 1);
        dueShares(x, 0, 1, 2, 3, 2, 3, 2, 3);
        Check.yard(x, "rhymes 0 1;left 2;turn always;aim left;");
        dueGame(x, 8, 10, 0);
        dueSure(x, 0, 0, 0, 1);
        Check.answers(x, "a bb");
        dueShares(x, 0, 1, 1, 2, 1, 2, 1, 1);
        CHECK.due("holds 0 2", Check.holds(x, 0, 2), 2);
        CHECK.due("holds 0 1", Check.holds(x, 0, 1), 2);
        CHECK.due("holds 0 3", Check.holds(x, 0, 3), 1);
        // Onward b is asked, "a" leads to c, "bb" to d.
        Check.yard(x, "rhymes 0 1;left 2;turn never;");
        dueShares(x, 0, 1, 1, 1, 1, 2, 1, 2);
        CHECK.due("holds 0 3", Check.holds(x, 0, 3), 2);
        CHECK.due("holds 0 1", Check.holds(x, 0, 1), 1);
    }

    private static void gameTurnsTwice() {
        CHECK.by(TERMS, "the way that one goes now");
        // a goes, back from d: d goes, onward from b: "a" leads to c, "bb" to b.
        RhymeRing x = made("a b c d", "a bb", "rhymes 0 0 1;turn always;", "b", "b ?");
        dueGame(x, 0, 2, 0);
        dueGame(x, 2, 4, 1);
        dueGame(x, 4, 2, 0);
        dueSure(x, 1, 1, 0, 1);
        dueShares(x, 0, 1, 1, 2, 1, 2, 0, 1);
        CHECK.due("holds 0 3 2", Check.holds(x, 0, 3, 2), 3);
        CHECK.due("holds 0 3 1", Check.holds(x, 0, 3, 1), 3);
        CHECK.due("holds 0 1", Check.holds(x, 0, 1), 1);
        // b goes, back from a: e goes, onward from a: "a" leads to c, "bb" to d, "ccc" to a.
        x = made("a b c d e", "a bb ccc", "rhymes 0 0 1;turn always;left 2;", "b b", "b ?");
        dueGame(x, 1, 12, 2);
        dueGame(x, 0, 9, 0);
        dueGame(x, 30, 9, 0);
        dueShares(x, 2, 3, 0, 1, 2, 3, 2, 3, 0, 1);
        // Onward all the time: b goes, d goes, and e is asked: "a" leads to a, "bb" to c.
        Check.yard(x, "rhymes 0 0 1;left 2;");
        dueGame(x, 16, 5, 2);
        dueGame(x, 1, 20, 0);
    }

    private static void gameBegins() {
        CHECK.by(TERMS, "The next COUNTING begins");
        // b goes. Then c is asked, and "a" leads to d, "bb" to a.
        RhymeRing x = made("a b c d", "a bb", "rhymes 0 1;left 2;then next;", "b b", "b ?");
        dueShares(x, 1, 2, 0, 1, 1, 1, 1, 2);
        CHECK.due("next, holds 1 0", Check.holds(x, 1, 0), 2);
        CHECK.due("next, holds 1 2", Check.holds(x, 1, 2), 1);
        dueGame(x, 4, 5, 0);
        String[] atFirst = {"then same;", "then caller;"};
        for (String then : atFirst) {
            // Then a is asked, and "a" leads to c, "bb" to d.
            Check.yard(x, "rhymes 0 1;left 2;" + then);
            dueShares(x, 1, 1, 0, 1, 1, 2, 1, 2);
            CHECK.due(then + " holds 1 0", Check.holds(x, 1, 0), 1);
            CHECK.due(then + " holds 1 2", Check.holds(x, 1, 2), 2);
            Check.answers(x, "a bb ccc");
            dueGame(x, 1, 12, 2);
            dueGame(x, 4, 9, 0);
            dueSure(x, 1, 1, 0, 0);
            Check.answers(x, "a bb");
        }
        Check.answers(x, "a bb ccc");
        Check.yard(x, "rhymes 0 1;left 2;then next;");
        dueGame(x, 1, 5, 0);
        dueGame(x, 4, 9, 2);
        dueSure(x, 0, 1, 1, 0);
        // c goes. Then d is asked, or a is: who begins is not behind where one began.
        x = made("a b c d", "a bb ccc", "rhymes 0 1;left 2;", "b b b", "b ?");
        dueGame(x, 8, 3, 2);
        dueGame(x, 1, 10, 0);
        Check.yard(x, "rhymes 0 1;left 2;then same;");
        dueGame(x, 1, 10, 2);
        dueGame(x, 8, 9, 0);
    }

    /**
     * By fists a's left HAND goes, and back from a's right one a is asked: "a" leads to the right
     * HAND of b, "bb" to the left one, and then onward from a's right HAND the other one of b goes.
     */
    private static void gameCaller() {
        CHECK.by(TERMS, "caller: at the first HAND in of PEOPLE 0, if that one is in, else as next");
        RhymeRing x = made("a b", "a bb", "then caller;by fists;turn always;rhymes 0 1 2;aim left;",
            "b", "b ?", "b b");
        for (int see = 0; see < 4; see++) {
            dueGame(x, see, 1, 0);
        }
        dueSure(x, 1, 0);
        dueShares(x, 1, 1, 0, 1);
        CHECK.due("holds 0 1 1", Check.holds(x, 0, 1, 1), 3);
        CHECK.due("holds 0 0", Check.holds(x, 0, 0), 1);
        CHECK.due("holds 0 1 0", Check.holds(x, 0, 1, 0), 2);
        // a goes: as next, b is asked, "a" leads to c, "bb" to d.
        x = made("a b c d", "a bb", "then caller;rhymes 0 1;left 2;", "b", "b ?");
        dueShares(x, 0, 1, 1, 1, 1, 2, 1, 2);
        dueGame(x, 4, 10, 0);
        CHECK.due("holds 0 3", Check.holds(x, 0, 3), 2);
        CHECK.due("holds 0 1", Check.holds(x, 0, 1), 1);
    }

    private static void noAsk() {
        CHECK.by(22, "The ANSWER to the first ask of that GAME; NONE likewise, or there is no ask");
        RhymeRing x = made("a b c", "a bb", "", "b");
        dueGame(x, 0, 4, -1);
        dueGame(x, 7, 4, -1);
        // The ask of the second RHYME never comes.
        x = made("a b c", "a bb", "hit stays;rhymes 0 1;", "b b", "b ?");
        dueGame(x, 7, 2, -1);
        x = made("a b c", "a bb", "left 2;rhymes 0 1;", "b b", "b ?");
        dueGame(x, 7, 5, -1);
        // It comes behind the first HIT, of b: c is asked, "a" leads to a, "bb" to c.
        Check.yard(x, "rhymes 0 1;");
        dueGame(x, 0, 4, 0);
        dueGame(x, 4, 1, 1);
        dueGame(x, 3, 4, 0);
        Check.answers(x, "bb a");
        dueGame(x, 0, 1, 0);
        // It comes behind two HITS, of b and d: e is asked, "a" leads to a, "bb" to c.
        x = made("a b c d e", "a bb ccc", "rhymes 0 0 1;left 2;", "b b", "b ?");
        dueGame(x, 16, 5, 2);
        x = made("a b", "a bb", "rhymes 1;", "b ?");
        dueGame(x, 0, -1, -1);
    }

    // ---- SURE

    private static void sureWhateverOthersAnswer() {
        CHECK.by(TERMS, "SURE is one who has a way to answer by which the aim is met, whatever all "
            + "others answer.");
        RhymeRing x = made("a b c", "a bb", "aim free;", "b ?");
        dueSure(x, 1, 0, 1);
        Check.yard(x, "aim left;");
        dueSure(x, 1, 0, 0);
        // The other way round: by "a" b goes and a is asked again, by "bb" c goes and b is asked.
        Check.yard(x, "turn always;aim left;");
        dueSure(x, 1, 0, 0);
        Check.yard(x, "turn always;aim free;");
        dueSure(x, 1, 1, 0);
        CHECK.by(23, "1 one of PEOPLE is SURE, 0 not");
        // None is asked: a goes, b goes.
        x = made("a b c", "a bb", "aim free;", "b");
        dueSure(x, 1, 1, 0);
        Check.yard(x, "aim left;");
        dueSure(x, 0, 0, 1);
        x = made("a", "a", "hit stays;aim left;", "b ?");
        dueSure(x, 1);
        Check.yard(x, "hit stays;");
        dueSure(x, 0);
    }

    private static void noSuchOne() {
        CHECK.by(23, "NONE: as game(), or no such one");
        for (int n = 1; n <= 8; n++) {
            RhymeRing x = made(MANY[n], "a", "hit stays;aim left;rhymes 0 1;", "b", "b");
            dueSure(x, 1);
            CHECK.due("the last one", x.sure(n - 1), n == 1 ? 1 : 0);
            int[] wrong = {n, n + 1, 8, 12, -1, Integer.MIN_VALUE, Integer.MAX_VALUE};
            for (int p : wrong) {
                CHECK.due(n + " PEOPLE, sure " + p, x.sure(p), -1);
            }
            x.forget(1);
            CHECK.due("a RHYME is not there", x.sure(0), -1);
        }
    }

    // ---- SHARES

    private static void shareAlikeLikely() {
        CHECK.by(TERMS, "how likely one is LEFT, if each ask is answered by any of the ANSWERS, "
            + "alike likely");
        RhymeRing x = made("a b c", "a bb", "", "b ?");
        dueShares(x, 1, 2, 1, 4, 1, 4);
        Check.yard(x, "left 2;");
        dueShares(x, 1, 1, 1, 2, 1, 2);
        Check.yard(x, "hit stays;");
        dueShares(x, 0, 1, 1, 2, 1, 2);
        // ANSWERS of as many letters are as many.
        Check.answers(x, "a a bb");
        dueShares(x, 0, 1, 2, 3, 1, 3);
        Check.answers(x, "a dddd bb ccc ffffff");
        dueShares(x, 2, 5, 2, 5, 1, 5);
        // By fists each of both HANDS of b, and one of a: one is LEFT with that likelihood.
        x = made("a b", "a bb ccc dddd", "by fists;hit stays;", "b ?");
        dueShares(x, 1, 2, 1, 2);
        Check.answers(x, "a bb ccc");
        dueShares(x, 1, 3, 2, 3);
    }

    private static void shareWithoutCommonDivisor() {
        CHECK.by(TERMS, "told by two numbers without a divisor in common, the upper one (what 0) "
            + "and the lower one (1), which is 1 or more; 0 is 0 by 1.");
        RhymeRing x = made("a b", "a ccc bb dddd", "hit stays;", "b ?");
        dueShares(x, 1, 2, 1, 2);
        Check.answers(x, "a ccc a ccc");
        dueShares(x, 0, 1, 1, 1);
        Check.answers(x, "bb dddd bb bb bb");
        dueShares(x, 1, 1, 0, 1);
        Check.answers(x, "a ccc a bb");
        dueShares(x, 1, 4, 3, 4);
        x = made("a b c", "a", "", "b");
        dueShares(x, 0, 1, 0, 1, 1, 1);
        Check.yard(x, "left 9;");
        dueShares(x, 1, 1, 1, 1, 1, 1);
    }

    private static void shareOfMany() {
        CHECK.by(24, "SHARE of one of PEOPLE.");
        // Seven ANSWERS one behind another, each of which leads to any of five.
        RhymeRing x = made(MANY[8], "a bb ccc dddd eeeee", "", "b ?");
        Oracle o = new Oracle();
        o.people = java.util.List.of("a", "b", "c", "d", "e", "f", "g", "h");
        o.answers = java.util.List.of("a", "bb", "ccc", "dddd", "eeeee");
        o.slots[0] = "b ?";
        long all = 0;
        for (int p = 0; p < 8; p++) {
            long upper = Check.share(x, p, 0);
            long lower = Check.share(x, p, 1);
            CHECK.due("lower one of " + p, 78125 % lower, 0);
            all += upper * (78125 / lower);
            if (p == 0 || p == 7) {
                CHECK.due("upper one of " + p, upper, o.share(p, 0));
                CHECK.due("lower one of " + p, lower, o.share(p, 1));
            }
        }
        CHECK.due("together", all, 78125);
    }

    private static void noShare() {
        CHECK.by(24, "NoSuchElementException: as sure(), or another what.");
        RhymeRing x = made("a b c", "a bb", "rhymes 0 1;", "b ?", "b");
        int[] wrong = {3, 4, 8, 12, -1, Integer.MIN_VALUE, Integer.MAX_VALUE};
        for (int p : wrong) {
            CHECK.due("share " + p + " 0", Check.share(x, p, 0), Check.THROWN);
            CHECK.due("share " + p + " 1", Check.share(x, p, 1), Check.THROWN);
        }
        int[] others = {2, 3, -1, Integer.MIN_VALUE, Integer.MAX_VALUE};
        for (int what : others) {
            CHECK.due("share 0 " + what, Check.share(x, 0, what), Check.THROWN);
            CHECK.due("share 2 " + what, Check.share(x, 2, what), Check.THROWN);
        }
        CHECK.by(TERMS, "A call that throws changes nothing.");
        Check.play(x);
        x.feet(0, 0);
        Check.put(x, "abc");
        Check.share(x, 3, 0);
        Check.octet(x, 9);
        int[] told = {2, 3, 2, 3, 1, 2};
        for (int what = 0; what < told.length; what++) {
            CHECK.due("told " + what, x.told(what), told[what]);
        }
        x.forget(1);
        CHECK.due("a RHYME is not there", Check.share(x, 0, 0), Check.THROWN);
    }

    // ---- rests

    /** Of four by fists, who begin at the same HAND, SHARES are EVEN by 42 BEATS ahead of an ask. */
    private static void mendUpToForty() {
        CHECK.by(25, "The fewest rests (0 to 40)");
        RhymeRing x = made("a b c d", "a ffffff", "by fists;turn always;then same;", bs(42) + " ?");
        CHECK.due("by 42", x.mend(), 0);
        dueShares(x, 1, 4, 1, 4, 1, 4, 1, 4);
        for (int beats = 41; beats >= 2; beats--) {
            Check.rhyme(x, 0, bs(beats) + " ?");
            CHECK.due("by " + beats, x.mend(), 42 - beats);
        }
        CHECK.by(25, "NONE: none, or as game().");
        Check.rhyme(x, 0, "b ?");
        CHECK.due("by one: 41 rests are too many", x.mend(), -1);
        Check.rhyme(x, 0, "b - ?");
        CHECK.due("by one and a rest", x.mend(), 40);
    }

    private static void mendAtTheEnd() {
        CHECK.by(25, "put in at the end of the first RHYME of 'rhymes' (ahead of an ask)");
        String yard = "by fists;turn always;then same;";
        RhymeRing x = made("a b c d", "a ffffff", yard, "9x b b b b/2x b/?");
        CHECK.due("an ask in a LINE of its own", x.mend(), 4);
        Check.rhyme(x, 0, "9x b b b b/b b ?");
        CHECK.due("an ask in the LINE", x.mend(), 4);
        CHECK.by(25, "(The RHYME stays.)");
        CHECK.due("its BEATS", x.counted(0, true), 38);
        CHECK.due("mend again", x.mend(), 4);
        CHECK.due("its SHARES", Check.share(x, 0, 0) == 1 && Check.share(x, 0, 1) == 4, false);
        Check.put(x, "9x b b b b/b b ?");
        x.rhyme(1);
        CHECK.due("its ITEMS", x.changes(0, 1), 0);
        CHECK.due("no play()", x.told(5), 0);
    }

    private static void mendWhereUsed() {
        CHECK.by(25, "wherever it is used");
        String yard = "by fists;turn always;then same;";
        String[] orders = {"0 0;", "0 0 0;", "0 0 0 0;", "2;", "2 2;"};
        for (String order : orders) {
            RhymeRing x =
                made("a b c d", "a ffffff", yard + "rhymes " + order, bs(40) + " ?", "b",
                    bs(39) + " ?");
            CHECK.due("rhymes " + order, x.mend(), order.charAt(0) == '0' ? 2 : 3);
        }
        String[][] pairs = {{"b ?", "b b ?"}, {"b b ?", "b ?"}, {"b", "b ?"}, {"b ?", "b"}};
        String[] answers = {"a ccc", "a bb ccc"};
        String[] twos = {"rhymes 0 1;", "rhymes 1 0;", "rhymes 0 1 0;", "rhymes 1 1 0;"};
        for (String[] pair : pairs) {
            for (String words : answers) {
                for (String two : twos) {
                    RhymeRing x = made("a b c d", words, "left 2;" + two, pair[0], pair[1]);
                    Oracle o = oracle("a b c d", words, "left 2;" + two, pair[0], pair[1]);
                    CHECK.due(pair[0] + " and " + pair[1] + " by " + words + " " + two, x.mend(),
                        o.mend());
                }
            }
        }
    }

    private static Oracle oracle(String people, String answers, String yard, String... rhymes) {
        Oracle o = new Oracle();
        o.tape = people;
        o.people();
        o.tape = answers;
        o.answers();
        o.tape = yard;
        o.yard();
        for (int s = 0; s < rhymes.length; s++) {
            o.tape = rhymes[s];
            o.rhyme(s);
        }
        return o;
    }

    private static void mendNone() {
        CHECK.by(25, "NONE: none, or as game().");
        CHECK.due("two, none asked", made("a b", "a bb", "", "b").mend(), -1);
        CHECK.due("three by two ANSWERS", made("a b c", "a bb", "", "b ?").mend(), -1);
        CHECK.due("one ANSWER", made("a b", "a", "", "b ?").mend(), -1);
        CHECK.due("two by two ANSWERS", made("a b", "a bb", "", "b ?").mend(), 0);
        CHECK.due("three by three", made("a b c", "a bb ccc", "hit stays;", "b ?").mend(), 0);
        CHECK.due("one alone", made("a", "a", "hit stays;", "b").mend(), 0);
        CHECK.due("all LEFT at once", made("a b c", "a", "left 3;", "b").mend(), 0);
        String yard = "by fists;turn always;then same;count words;";
        CHECK.due("by words rests are 0",
            made("a b c d", "a ffffff", yard, bs(41) + " ?").mend(), -1);
        CHECK.due("by words without rests",
            made("a b c d", "a ffffff", yard, bs(42) + " ?").mend(), 0);
    }

    // ---- RECORDS

    private static void holdsUpTo() {
        CHECK.by(29, "up to which one it HOLDS (0: not even the first;");
        RhymeRing x = made("a b c", "a bb", "", "b ?");
        CHECK.due("an empty one", Check.holds(x), 0);
        CHECK.due("not even the first", Check.holds(x, 0), 0);
        CHECK.due("not even the first, whatever comes then", Check.holds(x, 0, 1), 0);
        CHECK.due("the first", Check.holds(x, 1), 1);
        CHECK.due("the first, not the second", Check.holds(x, 1, 1), 1);
        CHECK.due("both", Check.holds(x, 2, 0), 2);
        CHECK.due("both", Check.holds(x, 2, 1), 2);
        CHECK.due("both", Check.holds(x, 1, 2), 2);
        CHECK.due("a play() is no RECORD", x.told(5), 0);
    }

    /**
     * By fists: from the left HAND of a, "aa" leads to the left one of b, "bbb" to the right one.
     * Behind the first b is asked, and a or b is HIT; behind the second a is, and b or a is.
     */
    private static void holdsByAnyAnswers() {
        CHECK.by(TERMS, "It HOLDS up to the k-th one, if some answers lead to the first k as told.");
        RhymeRing x = made("a b", "aa bbb", "by fists;", "b ?");
        CHECK.due("b, a", Check.holds(x, 1, 0), 2);
        CHECK.due("b, b", Check.holds(x, 1, 1), 2);
        CHECK.due("b, b, and no more", Check.holds(x, 1, 1, 0), 2);
        CHECK.due("b, a, a", Check.holds(x, 1, 0, 0), 3);
        CHECK.due("b, a, b", Check.holds(x, 1, 0, 1), 3);
        CHECK.due("a", Check.holds(x, 0, 1), 0);
        // By "bbb" alone the second one is as told.
        Check.answers(x, "aa bbb");
        Check.yard(x, "by fists;rhymes 0 1;");
        Check.rhyme(x, 1, "b");
        CHECK.due("b's right HAND behind b's left one", Check.holds(x, 1, 1), 2);
        CHECK.due("a's left HAND behind b's right one", Check.holds(x, 1, 0), 2);
    }

    private static void holdsToTheEnd() {
        CHECK.by(29, "never beyond where the PLAY ends");
        int[] record = new int[24];
        for (int size = 0; size <= 24; size++) {
            int[] nought = java.util.Arrays.copyOf(record, size);
            for (int n = 1; n <= 8; n++) {
                RhymeRing x = made(MANY[n], "a", "by heads;", "b");
                CHECK.due(size + " of " + n, Check.holds(x, nought),
                    Math.min(size, n == 1 ? 0 : 1));
                Check.yard(x, "hit stays;");
                CHECK.due(size + " of " + n + ", stays", Check.holds(x, nought),
                    Math.min(size, 1));
            }
            RhymeRing x = made("a b", "a", "by fists;", "b");
            CHECK.due(size + " by fists", Check.holds(x, nought), Math.min(size, 2));
            CHECK.due(size + " explained", Check.explain(x, nought), size <= 2 ? 1 : 0);
        }
        RhymeRing x = made(MANY[8], "a", "", "b");
        CHECK.due("seven of eight", Check.holds(x, 0, 1, 2, 3, 4, 5, 6), 7);
        CHECK.due("no eighth", Check.holds(x, 0, 1, 2, 3, 4, 5, 6, 7), 7);
        Check.yard(x, "left 3;");
        CHECK.due("five, to left 3", Check.holds(x, 0, 1, 2, 3, 4, 5, 6), 5);
        x = made("a b c d", "a", "by fists;", "b b");
        CHECK.due("by fists, seven HANDS", Check.holds(x, 0, 1, 2, 3, 1, 3, 2, 0), 7);
    }

    private static void holdsNone() {
        CHECK.by(29, "NONE: as game(), more than 24 bytes, or one that is none of PEOPLE");
        RhymeRing x = made("a b c", "a bb", "rhymes 0 1;", "b ?", "b ?");
        int[] record = new int[24];
        record[0] = 1;
        CHECK.due("24 bytes", Check.holds(x, record), 2);
        CHECK.due("25 bytes", Check.holds(x, java.util.Arrays.copyOf(record, 25)), -1);
        CHECK.due("260 bytes", Check.holds(x, java.util.Arrays.copyOf(record, 260)), -1);
        for (int b = 0; b < 256; b++) {
            CHECK.due("byte " + b, Check.holds(x, b) >= 0, b < 3);
            CHECK.due("second byte " + b, Check.holds(x, 1, b) >= 0, b < 3);
        }
        record[23] = 3;
        CHECK.due("the last of 24", Check.holds(x, record), -1);
        CHECK.due("behind the end", Check.holds(x, 1, 0, 3), -1);
        x.forget(1);
        CHECK.due("a RHYME is not there", Check.holds(x, 1), -1);
        CHECK.due("a RHYME is not there, empty", Check.holds(x), -1);
    }

    private static void explainEach() {
        CHECK.by(30, "the SLOTS (bits) of RHYMES, each used alone in the place of 'rhymes', with "
            + "which all of it HOLDS");
        RhymeRing x = made("a b c", "a bb", "rhymes 0 1;", "b", "b b", "b b b", "b ?", "b b ?",
            "b b b ?");
        CHECK.due("none HIT: all", Check.explain(x), 63);
        CHECK.due("a", Check.explain(x, 0), 1 | 16 | 32);
        CHECK.due("b", Check.explain(x, 1), 2 | 8 | 32);
        CHECK.due("c", Check.explain(x, 2), 4 | 8 | 16);
        // By SLOT 0 b is the second one, by 4 b or c, by 5 b or c.
        CHECK.due("a, b", Check.explain(x, 0, 1), 1 | 16 | 32);
        CHECK.due("a, a", Check.explain(x, 0, 0), 0);
        CHECK.due("a, b and one more", Check.explain(x, 0, 1, 2), 0);
        CHECK.due("by 'rhymes' a, and then c", Check.holds(x, 0, 2), 2);
        CHECK.due("by none alone a, and then c, but 4 and 5", Check.explain(x, 0, 2), 16 | 32);
        for (int s = 0; s < 6; s++) {
            x.forget(s);
            CHECK.due("forgotten to " + s, Check.explain(x), 63 & -(2 << s));
        }
        CHECK.due("no RHYME", Check.explain(x), 0);
    }

    private static void explainNone() {
        CHECK.by(30, "NONE: as holds(), but whatever 'rhymes' are");
        RhymeRing x = made("a b c", "a bb", "rhymes 5 4 3 2;", "b");
        CHECK.due("none of 'rhymes' is there", Check.explain(x, 0), 1);
        CHECK.due("as holds()", Check.holds(x, 0), -1);
        int[] record = new int[24];
        CHECK.due("24 bytes", Check.explain(x, record), 0);
        CHECK.due("25 bytes", Check.explain(x, new int[25]), -1);
        CHECK.due("260 bytes", Check.explain(x, new int[260]), -1);
        for (int b = 0; b < 256; b++) {
            CHECK.due("byte " + b, Check.explain(x, b), b == 0 ? 1 : b < 3 ? 0 : -1);
            CHECK.due("second byte " + b, Check.explain(x, 0, b), b == 1 ? 1 : b < 3 ? 0 : -1);
        }
        record[23] = 3;
        CHECK.due("the last of 24", Check.explain(x, record), -1);
        CHECK.due("of a new object", new RhymeRing().explain(), 0);
        CHECK.due("of a new object, none of PEOPLE", Check.explain(new RhymeRing(), 1), -1);
    }
}
