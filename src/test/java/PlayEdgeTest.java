/**
 * The edges that the document names for PLAYS and great RINGS: promises 18 to 20. Each method
 * holds what it quotes; the WORDS of its RHYMES are of one BEAT, so that b is one HAND.
 */
public final class PlayEdgeTest {
    private static final Check CHECK = new Check("PlayEdgeTest");
    private static final int TERMS = Sentences.TERMS;
    private static final String[] MANY = {"", "a", "a b", "a b c", "a b c d", "a b c d e",
        "a b c d e f", "a b c d e f g", "a b c d e f g h", "a b c d e f g h i",
        "a b c d e f g h i j", "a b c d e f g h i j k", "a b c d e f g h i j k l"};

    public static void main(String[] args) {
        handsRound();
        handsIn();
        turn();
        next();
        same();
        sameWithTurn();
        caller();
        callerByFists();
        rhymesRound();
        rests();
        names();
        namesByWords();
        namesByFists();
        namesOfThoseIn();
        namesWithTurn();
        linesSaidOften();
        asks();
        answersOneBehindAnother();
        stays();
        out();
        left();
        noPlay();
        noAnswer();
        hit();
        hitOfNone();
        hitOfTheLatest();
        lastEdges();
        lastOfTwo();
        lastByTheYard();
        lastOfTheFirstRhyme();
        noLast();
        CHECK.close();
    }

    private static RhymeRing made(String people, String yard, String... rhymes) {
        RhymeRing x = new RhymeRing();
        CHECK.due("people " + people, Check.people(x, people) > 0, true);
        for (int s = 0; s < rhymes.length; s++) {
            CHECK.due("rhyme " + rhymes[s], Check.rhyme(x, s, rhymes[s]) > 0, true);
        }
        CHECK.due("yard " + yard, Check.yard(x, yard) >= 0, true);
        return x;
    }

    private static void dueHits(String what, RhymeRing x, int left, int... hits) {
        CHECK.due(what + " LEFT", Check.play(x), left);
        for (int i = 0; i < hits.length; i++) {
            CHECK.due(what + " hit " + i, x.hit(i), hits[i]);
        }
        CHECK.due(what + " HITS", x.told(5), hits.length);
        CHECK.due(what + " hit behind all", x.hit(hits.length), -1);
    }

    /** A RHYME of so many WORDS, each of one BEAT. */
    private static String bs(int count) {
        StringBuilder text = new StringBuilder("b");
        for (int i = 1; i < count; i++) {
            text.append(" b");
        }
        return text.toString();
    }

    // ---- round the RING

    private static void handsRound() {
        CHECK.by(TERMS, "HANDS: of each of PEOPLE one (heads) or two (fists: the left one, then "
            + "the right one), in order round the RING. A COUNTING begins at a HAND (at first the "
            + "first one of PEOPLE 0), onward at first");
        for (int n = 1; n <= 12; n++) {
            RhymeRing heads = made(MANY[n], "hit stays;");
            RhymeRing fists = made(MANY[n], "hit stays;by fists;");
            for (int k = 1; k <= 2 * n + 3; k++) {
                Check.rhyme(heads, 0, bs(k));
                dueHits(k + " of " + n, heads, 1 << (k - 1) % n, (k - 1) % n);
                Check.rhyme(fists, 0, bs(k));
                int hit = (k - 1) % (2 * n) / 2;
                dueHits(k + " of " + n + " by fists", fists, 1 << hit, hit);
            }
        }
    }

    private static void handsIn() {
        CHECK.by(TERMS, "what is COUNTED goes from HAND to HAND that is in, one each");
        int[] behindOne = {2, 3, 4, 0};
        for (int k = 1; k <= 13; k++) {
            RhymeRing x = made(MANY[5], "left 3;rhymes 0 1;", "b b", bs(k));
            int second = behindOne[(k - 1) % 4];
            dueHits(k + " of four", x, 31 & ~(2 | 1 << second), 1, second);
        }
        int[] behindFour = {0, 2, 3};
        for (int k = 1; k <= 10; k++) {
            RhymeRing x = made(MANY[5], "left 2;rhymes 0 1 2;", "b b", "b b b", bs(k));
            int third = behindFour[(k - 1) % 3];
            dueHits(k + " of three", x, 13 & ~(1 << third), 1, 4, third);
        }
    }

    private static void turn() {
        CHECK.by(TERMS, "With turn always one goes the other way round from then on, behind each "
            + "HIT.");
        int[][] back = {{4, 3, 2, 1}, {0, 4, 3, 2}, {1, 0, 4, 3}, {2, 1, 0, 4}, {3, 2, 1, 0}};
        for (int first = 0; first < 5; first++) {
            for (int k = 1; k <= 13; k++) {
                RhymeRing x =
                    made(MANY[5], "turn always;left 3;rhymes 0 1;", bs(first + 1), bs(k));
                int second = back[first][(k - 1) % 4];
                dueHits(k + " back from " + first, x, 31 & ~(1 << first | 1 << second), first,
                    second);
            }
        }
        // 1 is HIT, then back from 0 the third one, which is 3, and onward again from 4.
        int[] onwardAgain = {4, 0, 2};
        for (int k = 1; k <= 10; k++) {
            RhymeRing x =
                made(MANY[5], "turn always;left 2;rhymes 0 1 2;", "b b", "b b b", bs(k));
            int third = onwardAgain[(k - 1) % 3];
            dueHits(k + " onward again", x, 21 & ~(1 << third), 1, 3, third);
        }
        CHECK.by(TERMS, "never, 1, 0, free");
        RhymeRing x = made(MANY[3], "turn never;", "b b");
        dueHits("never", x, 4, 1, 0);
    }

    private static void next() {
        CHECK.by(TERMS, "next: at the next HAND in, behind the one HIT, the way that one goes now");
        dueHits("onward", made(MANY[4], "then next;", "b"), 8, 0, 1, 2);
        dueHits("from the last one to the first", made(MANY[4], "then next;rhymes 0 1;left 2;",
            "b b b b", "b"), 6, 3, 0);
        dueHits("one that is not in is passed", made(MANY[4], "then next;rhymes 0 1 1;", "b",
            "b b b"), 4, 0, 3, 1);
        dueHits("back from the first one to the last", made(MANY[4], "turn always;left 2;", "b"),
            6, 0, 3);
        dueHits("onward over the first, which is not in", made(MANY[4], "turn always;", "b"), 4,
            0, 3, 1);
    }

    private static void same() {
        CHECK.by(TERMS, "same: at the HAND where the last one began, if it is in, else at the next "
            + "one in behind that");
        dueHits("always at 0", made(MANY[4], "then same;", "b b"), 1, 1, 2, 3);
        dueHits("each is HIT where it began", made(MANY[4], "then same;", "b"), 8, 0, 1, 2);
        // Behind 0 the next one is 1: there it begins, and there again.
        dueHits("twice at 1", made(MANY[5], "then same;left 2;rhymes 0 1 1;", "b", "b b"), 18, 0,
            2, 3);
        dueHits("by fists at the left HAND of 0", made(MANY[2], "then same;by fists;", "b b"), 1,
            0, 1, 1);
        dueHits("by fists at its right HAND", made(MANY[2], "then same;by fists;", "b"), 2, 0, 0);
        dueHits("at 1, and then twice at 2", made(MANY[5], "then same;rhymes 0 0 1 2;", "b",
            "b b", "b b b"), 16, 0, 1, 3, 2);
    }

    private static void sameWithTurn() {
        CHECK.by(TERMS, "else at the next one in behind that");
        dueHits("behind it the way that one goes now", made(MANY[4], "then same;turn always;",
            "b"), 4, 0, 3, 1);
        CHECK.by(TERMS, "same: at the HAND where the last one began, if it is in");
        // It begins at 0, then back at 4, and at 4 again, onward.
        dueHits("at 4 again", made(MANY[5], "then same;turn always;left 2;rhymes 0 1 1;", "b",
            "b b"), 20, 0, 3, 1);
        dueHits("at 0 again, back and onward", made(MANY[5], "then same;turn always;left 2;",
            "b b"), 9, 1, 4, 2);
    }

    private static void caller() {
        CHECK.by(TERMS, "caller: at the first HAND in of PEOPLE 0, if that one is in, else as next");
        dueHits("always at 0", made(MANY[4], "then caller;", "b b"), 1, 1, 2, 3);
        dueHits("0 is OUT: as next", made(MANY[4], "then caller;", "b"), 8, 0, 1, 2);
        dueHits("as next, not where it began", made(MANY[5], "then caller;left 2;rhymes 0 1 0;",
            "b", "b b"), 18, 0, 2, 3);
        dueHits("as next, the way that one goes now", made(MANY[4], "then caller;turn always;",
            "b"), 4, 0, 3, 1);
        dueHits("at 0, back and onward", made(MANY[5], "then caller;turn always;left 2;", "b b"),
            9, 1, 4, 2);
    }

    private static void callerByFists() {
        CHECK.by(TERMS, "at the first HAND in of PEOPLE 0");
        String yard = "then caller;by fists;left 2;";
        dueHits("the right one, and again", made(MANY[3], yard + "rhymes 0 1 0;", "b", "b b"), 6,
            0, 1, 0);
        dueHits("the left one", made(MANY[3], yard + "rhymes 0 1 1;", "b b b", "b"), 6, 1, 0, 0);
        dueHits("the right one, back", made(MANY[3], yard + "turn always;", "b"), 6, 0, 0);
        dueHits("the left one, back", made(MANY[3], yard + "turn always;rhymes 0 1 1;", "b b b",
            "b"), 6, 1, 0, 0);
    }

    private static void rhymesRound() {
        CHECK.by(TERMS, "Its RHYME is the next one of 'rhymes', round again.");
        dueHits("one", made(MANY[3], "rhymes 1;", "b b", "b"), 4, 0, 1);
        dueHits("two", made(MANY[6], "rhymes 2 0;", "b", "b b b b", "b b"), 1, 1, 2, 4, 5, 3);
        dueHits("four", made(MANY[7], "rhymes 0 0 1 2;", "b", "b b", "b b b"), 32, 0, 1, 3, 6, 2,
            4);
        dueHits("SLOT 5", made(MANY[3], "rhymes 5 0;", "b", "b", "b", "b", "b", "b b"), 1, 1, 2);
    }

    // ---- what is COUNTED

    private static void rests() {
        CHECK.by(TERMS, "by beats: a WORD its BEATS, a spelled one its letters, a rest 1");
        dueHits("by beats", made(MANY[7], "hit stays;", "banana - ab! -"), 1 << 6, 6);
        CHECK.by(TERMS, "COUNTED by words: a WORD 1, a spelled one its letters, a rest 0");
        dueHits("by words", made(MANY[7], "hit stays;count words;", "banana - ab! -"), 1 << 2, 2);
    }

    /** NAMES of one BEAT, two and three. */
    private static final String NAMES = "b aa eee";

    private static void dueHitStays(String names, String yard, String rhyme, int hit) {
        dueHits(rhyme + " by " + yard, made(names, "hit stays;" + yard, rhyme), 1 << hit, hit);
    }

    private static void names() {
        CHECK.by(TERMS, "when a name comes it is that of whose HAND is next");
        dueHitStays(NAMES, "", "@", 0);
        dueHitStays(NAMES, "", "b @", 2);
        dueHitStays(NAMES, "", "b b @", 1);
        dueHitStays(NAMES, "", "b b b @", 0);
        dueHitStays(NAMES, "", "b b b b @", 2);
        dueHitStays(NAMES, "", "@ @", 2);
        dueHitStays(NAMES, "", "@ @ @", 0);
        dueHitStays(NAMES, "", "2x @ @", 2);
        dueHitStays(NAMES, "", "@/@/@", 0);
        dueHitStays(NAMES, "", "@ -", 1);
        dueHitStays(NAMES, "", "- @", 2);
        dueHitStays(NAMES, "", "ab! @", 1);
        dueHitStays(NAMES, "", "@ ab!", 2);
        dueHitStays("aaaaaaaaaaaa b b b b", "", "@", 1);
        dueHitStays("aaaaaaaaaaaa b b b b", "", "@ @", 2);
    }

    private static void namesByWords() {
        CHECK.by(TERMS, "a rest 0, a name 1");
        dueHitStays(NAMES, "count words;", "@", 0);
        dueHitStays(NAMES, "count words;", "b @", 1);
        dueHitStays(NAMES, "count words;", "b b @", 2);
        dueHitStays(NAMES, "count words;", "b b @ @", 0);
        dueHitStays(NAMES, "count words;", "2x - @ -", 1);
    }

    private static void namesByFists() {
        CHECK.by(TERMS, "a name the BEATS of the NAME of the one to whom it comes");
        int[] hits = {0, 0, 1, 2, 0, 0, 0, 0, 1, 2};
        dueHitStays(NAMES, "by fists;", "@", hits[0]);
        for (int k = 1; k < hits.length; k++) {
            dueHitStays(NAMES, "by fists;", bs(k) + " @", hits[k]);
        }
    }

    private static void namesOfThoseIn() {
        CHECK.by(TERMS, "when a name comes it is that of whose HAND is next");
        // 1 is HIT. Behind b to 2 and b to 0 the next one is 2, of three BEATS: 2, 0 and 2.
        dueHits("one that is not in is passed", made(NAMES, "rhymes 0 1;", "b b", "b b @"), 1, 1,
            2);
        dueHits("from the next one on", made(NAMES, "rhymes 0 1;", "b b", "@"), 1, 1, 2);
        dueHits("two names", made(NAMES, "rhymes 0 1;", "b b", "@ @"), 4, 1, 0);
    }

    private static void namesWithTurn() {
        // 0 is HIT. Back from 3: b to 3, eee to 2, 1 and 3, eee to 2, 1 and 3.
        dueHits("back", made("b aa eee b", "turn always;left 2;rhymes 0 1;", "b", "@ @ @"), 6, 0,
            3);
        // Onward from 1: aa to 1 and 2, b to 3, aa to 1 and 2.
        dueHits("onward", made("b aa eee b", "left 2;rhymes 0 1;", "b", "@ @ @"), 10, 0, 2);
    }

    private static void linesSaidOften() {
        CHECK.by(TERMS, "TIMES: 2x to 9x: so often the LINE is said.");
        dueHitStays(MANY[12], "", "b/2x b b/3x -", 7);
        dueHitStays(MANY[12], "count words;", "b/2x b b/3x -", 4);
        dueHitStays(MANY[12], "", "2x b/b/2x b/b", 5);
        dueHitStays(MANY[12], "", "9x banana/b", 27 % 12);
        // Twice b to 0, aa to 1 and 2, and then six times one HAND more.
        dueHitStays(NAMES, "", "2x b @/3x - a!", 2);
        // b to 0, aa to 1 and 2, b to 0, b to 1, eee to 2, 0 and 1, b to 2, b to 0.
        dueHitStays(NAMES, "", "b/@/2x @ b/b", 0);
        RhymeRing x = made(MANY[12], "hit stays;", "b/2x b b/9x b/?");
        Check.answers(x, "a bb");
        CHECK.due("an ask in the last LINE", Check.play(x, 1), 1 << 15 % 12);
    }

    // ---- asks

    private static void asks() {
        CHECK.by(TERMS, "at an ask the one to whom the latest came answers with one of the "
            + "ANSWERS, whose letters are counted on.");
        int[] hits = {2, 3, 4, 0, 3};
        for (String yard : new String[] {"hit stays;", "hit stays;count words;"}) {
            for (String rhyme : new String[] {"b b ?", "b b/?", "b/b ?", "2x b/?"}) {
                RhymeRing x = made(MANY[5], yard, rhyme);
                Check.answers(x, "a ee iii oooo aeiouyaeiouy");
                for (int a = 0; a < hits.length; a++) {
                    CHECK.due(rhyme + " answered by " + a, Check.play(x, a), 1 << hits[a]);
                    CHECK.due(rhyme + " HIT by " + a, x.hit(0), hits[a]);
                }
            }
        }
        RhymeRing x = made(MANY[2], "hit stays;by fists;", "b b b ?");
        Check.answers(x, "a bb ccc dddd");
        int[] byFists = {1, 0, 0, 1};
        for (int a = 0; a < byFists.length; a++) {
            CHECK.due("by fists answered by " + a, Check.play(x, a), 1 << byFists[a]);
        }
    }

    private static void dueTold(RhymeRing x, int[] hits, int... told) {
        StringBuilder what = new StringBuilder("told");
        for (int a : told) {
            what.append(' ').append(a);
        }
        Check.play(x, told);
        for (int i = 0; i < hits.length; i++) {
            CHECK.due(what + " hit " + i, x.hit(i), hits[i]);
        }
        CHECK.due(what + " HITS", x.told(5), hits.length);
    }

    private static void answersOneBehindAnother() {
        CHECK.by(18, "the tape's bytes being the ANSWERS (0 the first) to its asks one behind "
            + "another (0 where there are no more)");
        RhymeRing x = made(MANY[4], "", "b ?");
        Check.answers(x, "a bb");
        int[] nought = {1, 3, 2};
        dueTold(x, nought);
        dueTold(x, nought, 0);
        dueTold(x, nought, 0, 0, 0);
        dueTold(x, nought, new int[260]);
        int[] one = {2, 0, 3};
        dueTold(x, one, 1);
        dueTold(x, one, 1, 0, 0);
        dueTold(x, one, 1, 0, 0, 1, 1);
        dueTold(x, new int[] {1, 0, 3}, 0, 1);
        dueTold(x, new int[] {1, 3, 0}, 0, 0, 1);
        // The first COUNTING of two has no ask, so that the first byte is for the second one.
        x = made(MANY[4], "rhymes 0 1;", "b", "b ?");
        Check.answers(x, "a bb");
        dueTold(x, new int[] {0, 2, 3});
        dueTold(x, new int[] {0, 3, 1}, 1);
        dueTold(x, new int[] {0, 3, 1}, 1, 1);
    }

    // ---- who goes, and who is LEFT

    private static void stays() {
        CHECK.by(TERMS, "HIT stays: the PLAY ends, that one alone is LEFT.");
        for (int left = 1; left <= 9; left++) {
            String yard = "hit stays;left " + left + ";";
            dueHits("three", made(MANY[3], yard, "b b"), 2, 1);
            dueHits("one", made(MANY[1], yard, "b b"), 1, 0);
            dueHits("one by fists", made(MANY[1], yard + "by fists;", "b b"), 1, 0);
            dueHits("turn and more RHYMES", made(MANY[3], yard + "turn always;rhymes 0 1;", "b b",
                "b"), 2, 1);
        }
    }

    private static void out() {
        CHECK.by(TERMS, "HIT out: the HAND goes; one without HANDS is OUT");
        dueHits("heads", made(MANY[2], "", "b"), 2, 0);
        dueHits("both HANDS", made(MANY[2], "by fists;", "b"), 2, 0, 0);
        dueHits("one HAND each, then the other", made(MANY[2], "by fists;", "b b"), 1, 0, 1, 1);
        dueHits("left 2 of three, by fists", made(MANY[3], "by fists;left 2;", "b b"), 5, 0, 1, 2,
            1);
    }

    private static void left() {
        CHECK.by(TERMS, "the PLAY ends when PEOPLE who are in are as many as left tells, or fewer: "
            + "these are LEFT (so at once, if they are at first)");
        for (int n = 1; n <= 12; n++) {
            for (int left = 1; left <= 9; left++) {
                int out = Math.max(0, n - left);
                int bits = (1 << n) - 1 & ~((1 << out) - 1);
                int[] heads = new int[out];
                int[] fists = new int[2 * out];
                for (int p = 0; p < out; p++) {
                    heads[p] = p;
                    fists[2 * p] = p;
                    fists[2 * p + 1] = p;
                }
                String yard = "left " + left + ";";
                dueHits(n + " heads to " + left, made(MANY[n], yard, "b"), bits, heads);
                dueHits(n + " by fists to " + left, made(MANY[n], yard + "by fists;", "b"), bits,
                    fists);
            }
        }
    }

    private static void noPlay() {
        CHECK.by(18, "NONE: a RHYME of 'rhymes' is not there");
        CHECK.due("of a new object", new RhymeRing().play(), -1);
        String[] orders = {"3", "0 3", "0 0 3", "0 0 0 3", "3 0", "0 3 0", "0 3 3 0", "5", "0 5"};
        for (String order : orders) {
            RhymeRing x = made(MANY[2], "rhymes " + order + ";", "b", "b", "b");
            CHECK.due("rhymes " + order, Check.play(x), -1);
            Check.yard(x, "left 9;rhymes " + order + ";");
            CHECK.due("over at once, rhymes " + order, Check.play(x), -1);
            Check.yard(x, "hit stays;rhymes " + order + ";");
            CHECK.due("hit stays, rhymes " + order, Check.play(x), -1);
            Check.rhyme(x, 3, "b");
            Check.rhyme(x, 5, "b");
            CHECK.due("all there, rhymes " + order, Check.play(x), 1);
            x.forget(3);
            x.forget(5);
            CHECK.due("forgotten, rhymes " + order, Check.play(x), -1);
        }
    }

    private static void noAnswer() {
        CHECK.by(18, "or a byte is no ANSWER");
        RhymeRing x = made(MANY[3], "", "b ?");
        String[] answers = {"a", "a b", "a b c", "a b c d", "a b c d e"};
        for (int count = 1; count <= 5; count++) {
            Check.answers(x, answers[count - 1]);
            for (int a = 0; a < 256; a++) {
                CHECK.due("byte " + a + " of " + count, Check.play(x, a) >= 0, a < count);
            }
            CHECK.due("the second byte", Check.play(x, 0, count), -1);
            CHECK.due("a byte behind all asks", Check.play(x, 0, 0, 0, 0, count), -1);
            CHECK.due("the first byte alone", Check.play(x, 255, 0), -1);
            CHECK.due("fine ones", Check.play(x, count - 1, 0, 0) >= 0, true);
        }
        Check.yard(x, "left 3;");
        CHECK.due("over at once", Check.play(x, 5), -1);
        Check.rhyme(x, 0, "b");
        CHECK.due("without an ask", Check.play(x, 5), -1);
        int[] many = new int[260];
        CHECK.due("260 bytes", Check.play(x, many), 7);
        many[259] = 5;
        CHECK.due("the last of 260 bytes", Check.play(x, many), -1);
    }

    // ---- who was HIT

    private static void hit() {
        CHECK.by(19, "who was HIT as the i-th (0 the first)");
        RhymeRing x = made(MANY[12], "by fists;", "b b");
        Check.play(x);
        CHECK.due("HITS", x.told(5), 23);
        for (int i = 0; i < 12; i++) {
            CHECK.due("hit " + i, x.hit(i), i);
        }
        // Then it is each second one of the twelve left HANDS, and so on: 8 is LEFT.
        int[] then = {1, 3, 5, 7, 9, 11, 2, 6, 10, 4, 0};
        for (int i = 0; i < then.length; i++) {
            CHECK.due("hit " + (12 + i), x.hit(12 + i), then[i]);
        }
        CHECK.by(19, "NONE: there was none such");
        int[] wrong = {-1, 23, 24, 25, Integer.MIN_VALUE, Integer.MAX_VALUE};
        for (int i : wrong) {
            CHECK.due("hit " + i, x.hit(i), -1);
        }
    }

    private static void hitOfNone() {
        CHECK.by(19, "or no play() ahead");
        RhymeRing x = new RhymeRing();
        for (int i = -1; i <= 24; i++) {
            CHECK.due("hit " + i, x.hit(i), -1);
        }
        Check.play(x);
        CHECK.due("a play() that was NONE", x.hit(0), -1);
        Check.people(x, "a b");
        Check.rhyme(x, 0, "b");
        x.game(0);
        x.last(5);
        Check.holds(x, 0);
        CHECK.due("no PLAY of a GAME", x.hit(0), -1);
    }

    private static void hitOfTheLatest() {
        CHECK.by(19, "Of the latest play() that was not NONE");
        RhymeRing x = made(MANY[4], "", "b");
        dueHits("four", x, 8, 0, 1, 2);
        Check.play(x, 1);
        CHECK.due("NONE: no ANSWER", x.hit(2), 2);
        Check.yard(x, "rhymes 1;");
        Check.play(x);
        CHECK.due("NONE: no RHYME", x.hit(2), 2);
        Check.yard(x, "left 3;");
        dueHits("a shorter one", x, 14, 0);
        CHECK.due("none such now", x.hit(1), -1);
        CHECK.due("none such now", x.hit(2), -1);
        Check.yard(x, "left 4;");
        dueHits("the shortest one", x, 15);
        Check.yard(x, "hit stays;");
        Check.rhyme(x, 0, "b b b b");
        dueHits("of hit stays", x, 8, 3);
        Check.people(x, "a");
        Check.rhyme(x, 0, "b ?");
        CHECK.due("not of what came then", x.hit(0), 3);
    }

    // ---- great RINGS

    private static void lastEdges() {
        CHECK.by(20, "Who is LEFT of a RING of n (1 to 1000000000000) HEADS");
        long most = 1000000000000L;
        long[] wrong = {0, -1, -2, Long.MIN_VALUE, most + 1, most + 2, 2 * most, Long.MAX_VALUE,
            (1L << 32) * 5000, -(1L << 32) + 5};
        for (int k = 1; k <= 5; k++) {
            RhymeRing x = made(MANY[1], "", bs(k));
            for (long n : wrong) {
                CHECK.due(n + " by " + k, x.last(n), -1);
            }
            CHECK.due("1 by " + k, x.last(1), 0);
            CHECK.due("2 by " + k, x.last(2), k % 2);
            CHECK.due("the most by " + k, x.last(most), Oracle.josephus(most, k));
            CHECK.due("one less by " + k, x.last(most - 1), Oracle.josephus(most - 1, k));
        }
    }

    private static void lastOfTwo() {
        RhymeRing x = made(MANY[1], "", "b b");
        for (int shift = 0; shift < 39; shift++) {
            CHECK.due("2 to the " + shift, x.last(1L << shift), 0);
            CHECK.due("one more", x.last((1L << shift) + 1), shift == 0 ? 0 : 2);
            CHECK.due("one less than twice", x.last((2L << shift) - 1), (2L << shift) - 2);
        }
    }

    private static void lastByTheYard() {
        CHECK.by(20, "with left 1, hit out, then next, turn never");
        String[] yards = {"left 9;", "hit stays;", "then same;", "then caller;", "turn always;",
            "by fists;", "aim left;", "left 1;"};
        for (String yard : yards) {
            RhymeRing x = made(MANY[3], yard, "b b b");
            CHECK.due("five by three, " + yard, x.last(5), 3);
            CHECK.due("nine by three, " + yard, x.last(9), 0);
        }
        CHECK.by(20, "COUNTED as THE YARD tells");
        RhymeRing x = made(MANY[3], "count words;", "banana/2x -");
        CHECK.due("by words one", x.last(9), 8);
        Check.yard(x, "count beats;");
        CHECK.due("by beats five", x.last(9), Oracle.josephus(9, 5));
        Check.tongue(x, "vowels b;");
        CHECK.due("by beats three", x.last(9), 0);
        Check.rhyme(x, 0, "2x b/b!");
        CHECK.due("LINES said often", x.last(9), 0);
    }

    private static void lastOfTheFirstRhyme() {
        CHECK.by(20, "by the first RHYME of 'rhymes' alone");
        RhymeRing x = made(MANY[3], "rhymes 1 0 5 4;", "@ ?", "b b b");
        CHECK.due("the others are not there, or have names", x.last(9), 0);
        Check.yard(x, "rhymes 1;");
        CHECK.due("one alone", x.last(9), 0);
    }

    private static void noLast() {
        CHECK.by(20, "NONE: no such n, no such RHYME, or it has a name or an ask");
        RhymeRing x = new RhymeRing();
        CHECK.due("no RHYME", x.last(1), -1);
        for (int s = 1; s < 6; s++) {
            Check.rhyme(x, s, "b");
        }
        CHECK.due("no RHYME in SLOT 0", x.last(1), -1);
        Check.yard(x, "rhymes 0 1;");
        CHECK.due("no first RHYME", x.last(1), -1);
        Check.yard(x, "");
        String[] wrong = {"@", "b @", "@ b", "b/@/b", "b/9x b @", "@ b/b", "b ?", "b/?", "b! ?",
            "@ ?"};
        for (String rhyme : wrong) {
            for (String yard : new String[] {"", "count words;"}) {
                Check.rhyme(x, 0, rhyme);
                Check.yard(x, yard);
                CHECK.due(rhyme + " by " + yard, x.last(1), -1);
                CHECK.due(rhyme + " by " + yard, x.last(7), -1);
            }
        }
        Check.rhyme(x, 0, "b - b!");
        CHECK.due("neither", x.last(1), 0);
        x.forget(0);
        CHECK.due("forgotten", x.last(1), -1);
    }
}
