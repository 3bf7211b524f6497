/** Promises 18, 19 and 20: plays walked HIT by HIT, and great RINGS. */
public final class PlayTest {
    private static final Check CHECK = new Check("PlayTest");

    public static void main(String[] args) {
        usual();
        left();
        stays();
        turn();
        same();
        caller();
        fists();
        names();
        manyNames();
        asks();
        rhymes();
        noPlay();
        greatest();
        lastOfFew();
        lastOfMany();
        noLast();
        CHECK.close();
    }

    /** A new object with ann, bob and cy, the ANSWERS x and yy, and a RHYME in SLOT 0. */
    private static RhymeRing three(String rhyme, String yard) {
        RhymeRing x = new RhymeRing();
        Check.people(x, "ann bob cy");
        Check.answers(x, "x yy");
        Check.rhyme(x, 0, rhyme);
        CHECK.due("yard " + yard, Check.yard(x, yard) >= 0, true);
        return x;
    }

    private static void dueHits(String what, RhymeRing x, int... want) {
        for (int i = 0; i < want.length; i++) {
            CHECK.due(what + " hit " + i, x.hit(i), want[i]);
        }
        CHECK.due(what + " hit behind all", x.hit(want.length), -1);
        CHECK.due(what + " HITS told", x.told(5), want.length);
    }

    private static void usual() {
        RhymeRing x = three("one", "");
        CHECK.due("two BEATS", Check.play(x), 4);
        dueHits("two BEATS", x, 1, 0);
        CHECK.due("hit -1", x.hit(-1), -1);
        CHECK.due("hit of the greatest", x.hit(Integer.MAX_VALUE), -1);
        x = three("one", "count words;");
        CHECK.due("one WORD", Check.play(x), 4);
        dueHits("one WORD", x, 0, 1);
        x = three("a -", "");
        CHECK.due("a rest by beats", Check.play(x), 4);
        dueHits("a rest by beats", x, 1, 0);
        x = three("a -", "count words;");
        dueHitsOfPlay("a rest by words", x, 0, 1);
        x = three("2x cab!", "");
        dueHitsOfPlay("six letters", x, 2, 1);
        x = three("2x cab!", "count words;");
        dueHitsOfPlay("six letters by words", x, 2, 1);
    }

    private static void dueHitsOfPlay(String what, RhymeRing x, int... want) {
        int bits = Check.play(x);
        int gone = 0;
        for (int p : want) {
            gone |= 1 << p;
        }
        CHECK.due(what + " play", bits, 7 & ~gone);
        dueHits(what, x, want);
    }

    private static void left() {
        RhymeRing x = three("one", "left 2;");
        CHECK.due("left 2", Check.play(x), 5);
        dueHits("left 2", x, 1);
        Check.yard(x, "left 3;");
        CHECK.due("left 3, at once", Check.play(x), 7);
        dueHits("left 3", x);
        Check.yard(x, "left 9;");
        CHECK.due("left 9, fewer are there", Check.play(x), 7);
    }

    private static void stays() {
        RhymeRing x = three("one", "hit stays;");
        CHECK.due("that one alone", Check.play(x), 2);
        dueHits("stays", x, 1);
        Check.yard(x, "hit stays;left 9;");
        CHECK.due("left tells nothing then", Check.play(x), 2);
        dueHits("stays, left 9", x, 1);
        Check.people(x, "a");
        CHECK.due("of one", Check.play(x), 1);
        dueHits("of one", x, 0);
    }

    private static void turn() {
        RhymeRing x = three("one", "turn always;");
        CHECK.due("turn", Check.play(x), 1);
        dueHits("turn", x, 1, 2);
        x = three("one", "turn always;");
        Check.people(x, "a b c d e");
        CHECK.due("there and back", Check.play(x), 1);
        dueHits("there and back", x, 1, 4, 2, 3);
    }

    private static void same() {
        RhymeRing x = three("one", "then same;");
        CHECK.due("the same HAND", Check.play(x), 1);
        dueHits("the same HAND", x, 1, 2);
        x = three("a", "then same;");
        CHECK.due("it is not in", Check.play(x), 4);
        dueHits("it is not in", x, 0, 1);
        x = three("a", "then same;turn always;");
        CHECK.due("behind it, the way that one goes now", Check.play(x), 2);
        dueHits("behind it", x, 0, 2);
    }

    private static void caller() {
        RhymeRing x = three("one", "then caller;");
        CHECK.due("the caller", Check.play(x), 1);
        dueHits("the caller", x, 1, 2);
        x = three("a", "then caller;");
        CHECK.due("the caller is out: as next", Check.play(x), 4);
        dueHits("as next", x, 0, 1);
        x = three("a", "then caller;by fists;");
        Check.people(x, "a b");
        CHECK.due("the caller's other HAND", Check.play(x), 2);
        dueHits("the other HAND", x, 0, 0);
        x = three("one", "then caller;by fists;");
        Check.people(x, "a b");
        CHECK.due("the caller's left HAND", Check.play(x), 1);
        dueHits("the left HAND", x, 0, 1, 1);
    }

    private static void fists() {
        RhymeRing x = three("one", "by fists;");
        CHECK.due("fists", Check.play(x), 4);
        dueHits("fists", x, 0, 1, 2, 1, 0);
        x = three("a", "by fists;left 2;");
        CHECK.due("OUT without HANDS alone", Check.play(x), 6);
        dueHits("fists, left 2", x, 0, 0);
        x = three("a", "by fists;turn always;left 2;");
        CHECK.due("back to the last HAND, and on to the second", Check.play(x), 6);
        dueHits("fists, turn", x, 0, 2, 0);
    }

    private static void names() {
        RhymeRing x = three("a @", "");
        Check.people(x, "ann eeny bo");
        CHECK.due("the NAME of whose HAND is next", Check.play(x), 2);
        dueHits("names", x, 0, 2);
        Check.yard(x, "count words;");
        CHECK.due("a name by words", Check.play(x), 4);
        dueHits("names by words", x, 1, 0);
        x = three("2x @", "");
        Check.people(x, "ann eeny bo");
        CHECK.due("said twice, of two", Check.play(x), 2);
        dueHits("said twice", x, 0, 2);
        x = three("@", "by fists;left 2;");
        Check.people(x, "eeny ann bo");
        CHECK.due("three HANDS on", Check.play(x), 5);
        dueHits("by fists", x, 1, 1);
    }

    /** 120 names, each of one BEAT: the last one comes to the last one of two, or of three. */
    private static void manyNames() {
        StringBuilder rhyme = new StringBuilder("@");
        for (int i = 1; i < 120; i++) {
            rhyme.append(" @");
        }
        RhymeRing x = three(rhyme.toString(), "");
        Check.people(x, "ann bo");
        CHECK.due("many names", Check.play(x), 1);
        Check.people(x, "ann bo cy");
        CHECK.due("many names of three", Check.play(x), 1);
        dueHits("many names of three", x, 2, 1);
    }

    private static void asks() {
        RhymeRing x = three("a ?", "");
        CHECK.due("yy, then x", Check.play(x, 1), 1);
        dueHits("yy", x, 2, 1);
        CHECK.due("x, x", Check.play(x), 4);
        dueHits("x, x", x, 1, 0);
        CHECK.due("x, yy", Check.play(x, 0, 1), 1);
        dueHits("x, yy", x, 1, 2);
        CHECK.due("yy, yy and what is not asked", Check.play(x, 1, 1, 1, 0), 2);
        dueHits("yy, yy", x, 2, 0);
        Check.rhyme(x, 0, "a");
        Check.rhyme(x, 1, "a ?");
        Check.yard(x, "rhymes 0 1;");
        CHECK.due("the first ask is in the second RHYME", Check.play(x, 1, 0), 4);
        CHECK.due("x to it", Check.play(x, 0, 1), 2);
    }

    private static void rhymes() {
        RhymeRing x = three("a", "rhymes 0 1;");
        Check.people(x, "a b c d");
        Check.rhyme(x, 1, "one");
        CHECK.due("in turn", Check.play(x), 2);
        dueHits("in turn", x, 0, 2, 3);
        Check.yard(x, "rhymes 1 1 0;");
        CHECK.due("three in turn", Check.play(x), 4);
        dueHits("three in turn", x, 1, 3, 0);
        Check.yard(x, "rhymes 1;");
        CHECK.due("the other alone", Check.play(x), 1);
    }

    private static void noPlay() {
        RhymeRing x = three("one ?", "");
        Check.play(x, 1);
        int[] first = {x.hit(0), x.hit(1)};
        CHECK.due("no ANSWER", Check.play(x, 2), -1);
        CHECK.due("the tape is empty", x.told(3), 0);
        CHECK.due("no ANSWER behind the asks", Check.play(x, 0, 0, 0, 0, 0, 255), -1);
        Check.yard(x, "rhymes 0 1;");
        CHECK.due("a RHYME is not there", Check.play(x, 0), -1);
        Check.yard(x, "rhymes 0 1;left 9;");
        CHECK.due("not there, though none is COUNTED", Check.play(x), -1);
        dueHits("of the play() before", x, first);
        x.forget(0);
        Check.yard(x, "");
        CHECK.due("forgotten", Check.play(x), -1);
        dueHits("still of the play() before", x, first);
        Check.rhyme(x, 0, "a");
        Check.people(x, "a");
        CHECK.due("of one", Check.play(x), 1);
        dueHits("none HIT", x);
    }

    private static void greatest() {
        RhymeRing x = new RhymeRing();
        Check.people(x, "a b c d e f g h i j k l");
        Check.rhyme(x, 0, "a");
        Check.yard(x, "by fists;");
        CHECK.due("twelve by fists", Check.play(x), 1 << 11);
        CHECK.due("HITS", x.told(5), 22);
        CHECK.due("the last HIT", x.hit(21), 10);
        Check.rhyme(x, 0, "2x a");
        CHECK.due("every second one", Check.play(x), 1 << 8);
        CHECK.due("23 HITS", x.told(5), 23);
    }

    private static void lastOfFew() {
        RhymeRing x = new RhymeRing();
        for (int size = 1; size <= 12; size++) {
            StringBuilder rhyme = new StringBuilder("a");
            for (int i = 1; i < size; i++) {
                rhyme.append(" a");
            }
            Check.rhyme(x, 0, rhyme.toString());
            for (int n = 1; n <= 40; n++) {
                CHECK.due("last " + n + " by " + size, x.last(n), lastByHand(n, size));
            }
        }
        Check.rhyme(x, 0, "apple -/2x b!");
        CHECK.due("5 BEATS", x.last(9), lastByHand(9, 5));
        Check.yard(x, "count words;left 3;hit stays;then same;turn always;by fists;rhymes 0 1;");
        CHECK.due("3 WORDS, by the count and the first RHYME alone", x.last(9), lastByHand(9, 3));
        Check.rhyme(x, 1, "a @");
        CHECK.due("the second RHYME is nothing to it", x.last(9), lastByHand(9, 3));
        CHECK.due("of one", x.last(1), 0);
    }

    private static long lastByHand(int n, int size) {
        java.util.ArrayList<Integer> ring = new java.util.ArrayList<>();
        for (int i = 0; i < n; i++) {
            ring.add(i);
        }
        int at = 0;
        while (ring.size() > 1) {
            at = (at + size - 1) % ring.size();
            ring.remove(at);
        }
        return ring.get(0);
    }

    private static void lastOfMany() {
        RhymeRing x = new RhymeRing();
        Check.rhyme(x, 0, "one");
        long[] many = {1000000000000L, 999999999999L, 1L << 39, (1L << 39) - 1, 123456789012L};
        for (long n : many) {
            CHECK.due("by two, " + n, x.last(n), 2 * (n - Long.highestOneBit(n)));
        }
        Check.rhyme(x, 0, "a");
        CHECK.due("by one", x.last(1000000000000L), 999999999999L);
        String[] rhymes = {"one two three", "9x abcdefghijkl! abcdefghijkl! abcdefghijkl!",
            "9x aaaaaaaaaaaa aaaaaaaaaaaa aaaaaaaaaaaa/aaaaaaaaaaaa/9x a a a a a a a a a a",
            "5x a b c d e f g h i j k"};
        for (String rhyme : rhymes) {
            Check.rhyme(x, 0, rhyme);
            int size = x.counted(0, true);
            for (long n : many) {
                CHECK.due(n + " by " + size, x.last(n), Oracle.josephus(n, size));
            }
            for (long n = 2; n < 3000; n += 7) {
                CHECK.due(n + " by " + size, x.last(n), Oracle.josephus(n, size));
            }
        }
    }

    private static void noLast() {
        RhymeRing x = new RhymeRing();
        CHECK.due("no RHYME", x.last(3), -1);
        Check.rhyme(x, 0, "a");
        CHECK.due("0", x.last(0), -1);
        CHECK.due("-1", x.last(-1), -1);
        CHECK.due("one too many", x.last(1000000000001L), -1);
        CHECK.due("the greatest", x.last(Long.MAX_VALUE), -1);
        CHECK.due("the least", x.last(Long.MIN_VALUE), -1);
        CHECK.due("a low part that is small", x.last((1L << 40) + 3), -1);
        Check.rhyme(x, 0, "a/2x b @/c");
        CHECK.due("a name", x.last(3), -1);
        Check.yard(x, "count words;");
        CHECK.due("a name by words", x.last(3), -1);
        Check.rhyme(x, 0, "@ a");
        CHECK.due("a name as the first ITEM", x.last(3), -1);
        Check.rhyme(x, 0, "a/b ?");
        CHECK.due("an ask", x.last(3), -1);
        Check.rhyme(x, 1, "a");
        Check.yard(x, "rhymes 1 0;");
        CHECK.due("the first RHYME has none", x.last(3), 2);
    }
}
