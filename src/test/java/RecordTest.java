/** Promises 29 and 30: records of plays, held against THE YARD and against all RHYMES. */
public final class RecordTest {
    private static final Check CHECK = new Check("RecordTest");

    public static void main(String[] args) {
        holds();
        holdsToTheEnd();
        stays();
        explain();
        none();
        playsHold();
        CHECK.close();
    }

    private static RhymeRing three() {
        RhymeRing x = new RhymeRing();
        Check.people(x, "ann bob cy");
        Check.answers(x, "x yy");
        Check.rhyme(x, 0, "a ?");
        return x;
    }

    private static void holds() {
        RhymeRing x = three();
        CHECK.due("x, x", Check.holds(x, 1, 0), 2);
        CHECK.due("x, yy", Check.holds(x, 1, 2), 2);
        CHECK.due("yy, x", Check.holds(x, 2, 1), 2);
        CHECK.due("the first alone", Check.holds(x, 1, 1), 1);
        CHECK.due("not even the first", Check.holds(x, 0, 1), 0);
        CHECK.due("a short one", Check.holds(x, 2), 1);
        CHECK.due("an empty one", Check.holds(x), 0);
        CHECK.due("a record is no PLAY", x.told(5), 0);
        CHECK.due("the tape is empty", x.told(3), 0);
        // By fists two ways lead to one person, and only one of them goes on as told.
        Check.people(x, "a b");
        Check.yard(x, "by fists;");
        Check.answers(x, "xx yyy");
        CHECK.due("by one way or the other, 0", Check.holds(x, 1, 0), 2);
        CHECK.due("by one way or the other, 1", Check.holds(x, 1, 1), 2);
    }

    private static void holdsToTheEnd() {
        RhymeRing x = three();
        CHECK.due("not beyond the end", Check.holds(x, 1, 0, 2), 2);
        CHECK.due("24 bytes", Check.holds(x, 1, 0, 2, 2, 2, 2, 2, 2, 2, 2, 2, 2, 2, 2, 2, 2, 2, 2,
            2, 2, 2, 2, 2, 2), 2);
        Check.yard(x, "left 3;");
        CHECK.due("over at once", Check.holds(x, 1), 0);
        CHECK.due("over at once, none HIT", Check.holds(x), 0);
    }

    private static void stays() {
        RhymeRing x = three();
        Check.yard(x, "hit stays;");
        CHECK.due("the first", Check.holds(x, 1), 1);
        CHECK.due("the second is beyond", Check.holds(x, 1, 1), 1);
        CHECK.due("not the first", Check.holds(x, 0), 0);
        CHECK.due("explain beyond", Check.explain(x, 1, 1), 0);
        CHECK.due("explain", Check.explain(x, 2), 1);
    }

    private static void explain() {
        RhymeRing x = three();
        Check.rhyme(x, 1, "a b");
        Check.rhyme(x, 5, "a");
        CHECK.due("all with none HIT", Check.explain(x), 35);
        CHECK.due("bob", Check.explain(x, 1), 3);
        CHECK.due("ann", Check.explain(x, 0), 32);
        CHECK.due("cy", Check.explain(x, 2), 1);
        CHECK.due("bob, ann", Check.explain(x, 1, 0), 3);
        CHECK.due("bob, cy", Check.explain(x, 1, 2), 1);
        CHECK.due("all of it alone", Check.explain(x, 1, 1), 0);
        CHECK.due("beyond the end", Check.explain(x, 1, 0, 2), 0);
        CHECK.due("the tape is empty", x.told(3), 0);
        Check.yard(x, "rhymes 4 1 2;");
        CHECK.due("each alone, whatever 'rhymes' are", Check.explain(x, 1, 0), 3);
        CHECK.due("THE YARD stays", Check.holds(x, 1), -1);
        Check.yard(x, "rhymes 5 1;");
        CHECK.due("two in turn", Check.holds(x, 0, 2), 2);
        CHECK.due("neither alone", Check.explain(x, 0, 2), 0);
        x.forget(5);
        CHECK.due("forgotten", Check.explain(x, 0), 0);
    }

    private static void none() {
        RhymeRing x = three();
        CHECK.due("none of PEOPLE", Check.holds(x, 1, 3), -1);
        CHECK.due("none of PEOPLE, explain", Check.explain(x, 1, 3), -1);
        CHECK.due("none of PEOPLE beyond the end", Check.holds(x, 1, 0, 2, 255), -1);
        int[] long25 = new int[25];
        CHECK.due("25 bytes", Check.holds(x, long25), -1);
        CHECK.due("25 bytes, explain", Check.explain(x, long25), -1);
        CHECK.due("the tape is empty", x.told(3), 0);
        Check.yard(x, "rhymes 0 1;");
        CHECK.due("a RHYME is not there", Check.holds(x, 1), -1);
        CHECK.due("explain all the same", Check.explain(x, 1), 1);
        Check.yard(x, "by fists;");
        Check.people(x, "a b c d e");
        CHECK.due("ten HANDS", Check.holds(x, 1), -1);
        CHECK.due("ten HANDS, explain", Check.explain(x, 1), -1);
        Check.people(x, "a b c d");
        CHECK.due("eight HANDS", Check.holds(x, 3, 3) >= 0, true);
        x.forget(0);
        CHECK.due("no RHYMES", Check.explain(x, 1), 0);
    }

    /** What a PLAY was like, that HOLDS. */
    private static void playsHold() {
        RhymeRing x = new RhymeRing();
        Check.people(x, "ann bo cecily dee");
        Check.answers(x, "x yy zzz");
        Check.rhyme(x, 0, "2x one @/moe ?");
        Check.rhyme(x, 1, "@ - b! ?");
        Check.yard(x, "rhymes 0 1 1;by fists;turn always;then same;");
        for (int told = 0; told < 27; told++) {
            Check.play(x, told % 3, told / 3 % 3, told / 9 % 3, told % 2);
            int[] record = new int[x.told(5)];
            for (int i = 0; i < record.length; i++) {
                record[i] = x.hit(i);
            }
            CHECK.due("play " + told + " holds", Check.holds(x, record), record.length);
        }
    }
}
