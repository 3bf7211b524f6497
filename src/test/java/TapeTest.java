/** Promises 1, 2, 3, 16 and 31: a new object, the tape, OUT and what is told. */
public final class TapeTest {
    private static final Check CHECK = new Check("TapeTest");

    public static void main(String[] args) {
        newObject();
        newRules();
        feed();
        feedOrder();
        end();
        octet();
        told();
        CHECK.close();
    }

    private static void newObject() {
        RhymeRing x = new RhymeRing();
        CHECK.due("NONE", RhymeRing.NONE, -1);
        int[] want = {0, 1, 1, 0, 0, 0};
        for (int what = 0; what < want.length; what++) {
            CHECK.due("new told " + what, x.told(what), want[what]);
        }
        CHECK.due("new fault", x.fault(), 0);
        CHECK.due("new hit", x.hit(0), -1);
        CHECK.due("new octet", Check.octet(x, 0), Check.THROWN);
        CHECK.due("new forget", x.forget(0), false);
        CHECK.due("new play", x.play(), -1);
        CHECK.due("new last", x.last(5), -1);
        CHECK.due("new game", x.game(0), -1);
        CHECK.due("new explain", x.explain(), 0);
    }

    /** PEOPLE and ANSWERS are a alone; THE TONGUE and THE YARD are as without texts. */
    private static void newRules() {
        RhymeRing x = new RhymeRing();
        CHECK.due("usual vowels", Check.beats(x, "aeiouyb"), 6);
        CHECK.due("usual strong", Check.strong(x, "banana"), 0);
        Check.rhyme(x, 0, "a @ ?");
        CHECK.due("one alone is LEFT at once", Check.play(x), 1);
        CHECK.due("the only ANSWER", Check.play(x, 0), 1);
        CHECK.due("no other ANSWER", Check.play(x, 1), -1);
        CHECK.due("one alone is free: not", x.sure(0), 0);
        Check.people(x, "ann bob cy");
        Check.rhyme(x, 0, "apple");
        CHECK.due("by beats", x.last(3), 2);
        CHECK.due("heads, out, next, never, left 1, rhymes 0", Check.play(x), 4);
        CHECK.due("hit 0", x.hit(0), 1);
        CHECK.due("hit 1", x.hit(1), 0);
    }

    private static void feed() {
        RhymeRing x = new RhymeRing();
        for (int i = 1; i <= 13; i++) {
            CHECK.due("feed " + i, x.feed(i, i, i, i, i), 20 * i);
        }
        CHECK.due("feed beyond 260", x.feed(0, 0, 0, 0, 0), -1);
        CHECK.due("none came", x.told(3), 260);
        x.end(241);
        CHECK.due("feed to 261", x.feed(0, 0, 0, 0, 0), -1);
        CHECK.due("241 stay", x.told(3), 241);
        x.end(240);
        CHECK.due("feed to 260", x.feed(0, 0, 0, 0, 0), 260);
    }

    private static void feedOrder() {
        RhymeRing x = new RhymeRing();
        CHECK.due("feed", x.feed(0x61206220, 0x63206420, 0x65206620, 0x67206820, 0x69206a20), 20);
        x.end(19);
        CHECK.due("ten WORDS in order", x.people(), 10);
        x.feed(0x656e7920, 0, 0, 0, 0);
        x.end(3);
        CHECK.due("the highest byte first", x.beats(), 2);
        Check.rhyme(x, 0, "a");
        CHECK.due("bytes of a number below 0", x.feed(-1, -1, -1, -1, -1), 20);
        x.end(1);
        CHECK.due("byte 255 is none of PEOPLE", x.holds(), -1);
        Check.put(x, "ab");
        x.feed(0x63640000, 0, 0, 0, 0);
        CHECK.due("behind those there", x.told(3), 22);
        x.end(4);
        CHECK.due("one WORD of both", x.people(), 1);
    }

    private static void end() {
        RhymeRing x = new RhymeRing();
        CHECK.due("end 0 of none", x.end(0), true);
        CHECK.due("end 1 of none", x.end(1), false);
        x.feed(0, 0, 0, 0, 0);
        CHECK.due("end -1", x.end(-1), false);
        CHECK.due("end 21", x.end(21), false);
        CHECK.due("end of the greatest", x.end(Integer.MAX_VALUE), false);
        CHECK.due("20 stay", x.told(3), 20);
        CHECK.due("end 20", x.end(20), true);
        CHECK.due("20 again", x.told(3), 20);
        CHECK.due("end 7", x.end(7), true);
        CHECK.due("7 stay", x.told(3), 7);
        CHECK.due("end 8 of 7", x.end(8), false);
        CHECK.due("end of the least", x.end(Integer.MIN_VALUE), false);
    }

    private static void octet() {
        RhymeRing x = new RhymeRing();
        Check.rhyme(x, 0, "apple -/b");
        CHECK.due("feet", x.feet(0, 0), 3);
        CHECK.due("octet 0", Check.octet(x, 0), 1);
        CHECK.due("octet 1", Check.octet(x, 1), 0);
        CHECK.due("octet 2", Check.octet(x, 2), 0);
        CHECK.due("octet 3", Check.octet(x, 3), Check.THROWN);
        CHECK.due("octet -1", Check.octet(x, -1), Check.THROWN);
        CHECK.due("octet of the greatest", Check.octet(x, Integer.MAX_VALUE), Check.THROWN);
        CHECK.due("a throw changes nothing", x.told(4), 3);
        CHECK.due("shorter feet", x.feet(0, 1), 1);
        CHECK.due("octet 1 is gone", Check.octet(x, 1), Check.THROWN);
    }

    private static void told() {
        RhymeRing x = new RhymeRing();
        Check.rhyme(x, 0, "apple");
        Check.rhyme(x, 5, "b");
        Check.people(x, "a b c");
        Check.answers(x, "x y");
        x.feet(0, 0);
        x.play();
        x.feed(0, 0, 0, 0, 0);
        int[] want = {2, 3, 2, 20, 2, 2};
        for (int what = 0; what < want.length; what++) {
            CHECK.due("told " + what, x.told(what), want[what]);
        }
        CHECK.due("told 6", x.told(6), -1);
        CHECK.due("told -1", x.told(-1), -1);
        CHECK.due("told of the least", x.told(Integer.MIN_VALUE), -1);
        x.forget(5);
        CHECK.due("one RHYME less", x.told(0), 1);
    }
}
