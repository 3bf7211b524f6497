/** Promises 11, 26, 27 and 28: days, changes, parents and mixtures. */
public final class VersionTest {
    private static final Check CHECK = new Check("VersionTest");

    public static void main(String[] args) {
        born();
        items();
        lines();
        noChanges();
        parent();
        mixed();
        mixedOfLikeOnes();
        mixedOfParts();
        mixedOfManyLines();
        noMixture();
        CHECK.close();
    }

    private static void born() {
        RhymeRing x = new RhymeRing();
        CHECK.due("no RHYME", x.born(0, 1), false);
        Check.rhyme(x, 0, "a");
        CHECK.due("DAY 0", x.born(0, 0), true);
        CHECK.due("DAY 999", x.born(0, 999), true);
        CHECK.due("DAY 1000", x.born(0, 1000), false);
        CHECK.due("DAY -1", x.born(0, -1), false);
        CHECK.due("the least DAY", x.born(0, Integer.MIN_VALUE), false);
        CHECK.due("no SLOT 6", x.born(6, 1), false);
        CHECK.due("no SLOT -1", x.born(-1, 1), false);
        Check.rhyme(x, 1, "a");
        x.born(1, 998);
        CHECK.due("999 stays", x.parent(0), 1);
        x.forget(0);
        CHECK.due("forgotten", x.born(0, 1), false);
        Check.rhyme(x, 0, "a");
        CHECK.due("of DAY 0 again", x.parent(0), -1);
        CHECK.due("and the other's parent", x.parent(1), 0);
    }

    private static void dueChanges(String one, String other, int want) {
        RhymeRing x = new RhymeRing();
        Check.rhyme(x, 0, one);
        Check.rhyme(x, 5, other);
        CHECK.due(one + " to " + other, x.changes(0, 5), want);
        CHECK.due(other + " to " + one, x.changes(5, 0), want);
    }

    private static void items() {
        dueChanges("one two", "one two", 0);
        dueChanges("one two", "one too", 1);
        dueChanges("a b c", "a c", 1);
        String many = "b b b b b b b b b b b b b b b b b b b b b b b b b b b b b b b b b b b b b b b";
        dueChanges(many + " " + many + " " + many, many + " " + many + " a", 39);
        dueChanges(many + " " + many + " " + many + " a b c", many + " c", 80);
        dueChanges(many + " " + many + " " + many + " a b c",
            many + " " + many + " " + many + " a c c", 1);
        dueChanges("a b c", "c b a", 2);
        dueChanges("a b c d", "d a b c", 2);
        dueChanges("out", "out!", 1);
        dueChanges("a -", "a @", 1);
        dueChanges("a", "a ?", 1);
        dueChanges("2x a", "a", 1);
        dueChanges("2x a", "3x a", 1);
        dueChanges("2x a", "b a", 1);
        dueChanges("2x a b", "c d", 3);
        dueChanges("abc", "abcd", 1);
        dueChanges("a", "b c d", 3);
    }

    private static void lines() {
        dueChanges("a b/c", "c", 2);
        dueChanges("c", "c/a b/2x d e", 5);
        dueChanges("a/b", "a b", 2);
        dueChanges("a a/b b", "b b/a a", 4);
        dueChanges("a b c/d", "x/d", 3);
        dueChanges("a/b/c", "b/c/d", 2);
        dueChanges("a b c d e f", "a b c/d e f", 6);
        dueChanges("a/a/a/a/a/a/a/a/a/a/a/a/a/a/a/a", "b", 16);
    }

    private static void noChanges() {
        RhymeRing x = new RhymeRing();
        Check.rhyme(x, 0, "a");
        CHECK.due("no t", x.changes(0, 1), -1);
        CHECK.due("no s", x.changes(1, 0), -1);
        CHECK.due("no SLOT 6", x.changes(0, 6), -1);
        CHECK.due("no SLOT -1", x.changes(-1, 0), -1);
        CHECK.due("to itself", x.changes(0, 0), 0);
    }

    private static void parent() {
        RhymeRing x = new RhymeRing();
        Check.rhyme(x, 0, "x y z");
        Check.rhyme(x, 1, "a b z");
        Check.rhyme(x, 2, "a b c");
        Check.rhyme(x, 3, "a b z d");
        Check.rhyme(x, 4, "a b d");
        x.born(0, 1);
        x.born(1, 3);
        x.born(2, 5);
        x.born(3, 5);
        x.born(4, 2);
        CHECK.due("of like ones the least SLOT", x.parent(2), 1);
        CHECK.due("the fewest CHANGES", x.parent(3), 1);
        CHECK.due("with a lesser DAY", x.parent(1), 4);
        CHECK.due("the only older one", x.parent(4), 0);
        CHECK.due("none is older", x.parent(0), -1);
        x.born(1, 5);
        CHECK.due("not of the same DAY", x.parent(2), 4);
        CHECK.due("no RHYME", x.parent(5), -1);
        CHECK.due("no SLOT 6", x.parent(6), -1);
        CHECK.due("no SLOT -1", x.parent(-1), -1);
    }

    private static void dueMixed(String what, RhymeRing x, int s, int... want) {
        for (int i = 0; i < 4; i++) {
            CHECK.due(what + " mixed " + i, x.mixed(s, i), want[i]);
        }
    }

    private static void mixed() {
        RhymeRing x = new RhymeRing();
        Check.rhyme(x, 0, "q/q q/c/d");
        Check.rhyme(x, 1, "a/b/q q q");
        Check.rhyme(x, 2, "a/b/c/d");
        x.born(2, 1);
        dueMixed("first LINES of 1, last ones of 0", x, 2, 0, 1, 0, 2);
        Check.rhyme(x, 0, "q/c/d");
        Check.rhyme(x, 1, "a/q");
        dueMixed("a LINE is put in", x, 2, 1, 1, 0, 1);
        x.born(0, 1);
        dueMixed("one lesser DAY alone", x, 2, -1, -1, -1, -1);
    }

    private static void mixedOfLikeOnes() {
        RhymeRing x = new RhymeRing();
        Check.rhyme(x, 1, "a");
        Check.rhyme(x, 3, "b");
        Check.rhyme(x, 4, "b");
        Check.rhyme(x, 2, "a/b");
        x.born(2, 1);
        dueMixed("the least b", x, 2, 0, 1, 3, 1);
        Check.rhyme(x, 0, "a");
        dueMixed("the least a", x, 2, 0, 0, 3, 1);
        Check.rhyme(x, 2, "a/b/z");
        Check.rhyme(x, 0, "z");
        Check.rhyme(x, 1, "z");
        Check.rhyme(x, 3, "z");
        Check.rhyme(x, 4, "z");
        x.born(2, 1);
        dueMixed("the least i", x, 2, 2, 0, 1, 1);
    }

    /** None of the LINES of a, or of b, can be the cheapest, and all of them, too. */
    private static void mixedOfParts() {
        RhymeRing x = new RhymeRing();
        Check.rhyme(x, 0, "q q q q/r r r r");
        Check.rhyme(x, 1, "s s s s/t t t t");
        Check.rhyme(x, 2, "a/b");
        x.born(2, 7);
        dueMixed("none of both", x, 2, 2, 0, 1, 1);
        Check.rhyme(x, 2, "q q q q/r r r r/s s s s/t t t t");
        x.born(2, 7);
        dueMixed("all of both", x, 2, 0, 0, 1, 2);
        Check.rhyme(x, 2, "s s s s/t t t t/q q q q/r r r r");
        x.born(2, 7);
        dueMixed("the other way", x, 2, 0, 1, 0, 2);
    }

    private static void mixedOfManyLines() {
        RhymeRing x = new RhymeRing();
        Check.rhyme(x, 0, "q/a/b/c/d/e/f/g/h/i/j/k/l/m/n/o");
        Check.rhyme(x, 1, "z z z");
        Check.rhyme(x, 2, "a/b/c/d/e/f/g/h/i/j/k/l/m/n/o/z z z");
        x.born(2, 1);
        dueMixed("all sixteen LINES of a", x, 2, 1, 0, 1, 15);
        Check.rhyme(x, 0, "z z z");
        Check.rhyme(x, 1, "a/b/c/d/e/f/g/h/i/j/k/l/m/n/o/q");
        Check.rhyme(x, 2, "z z z/a/b/c/d/e/f/g/h/i/j/k/l/m/n/o");
        x.born(2, 1);
        dueMixed("all sixteen LINES of b", x, 2, 1, 0, 1, 1);
        Check.rhyme(x, 1, "x x x/q/y y y");
        Check.rhyme(x, 2, "z z z/x x x/y y y");
        x.born(2, 1);
        dueMixed("a LINE left out of b", x, 2, 1, 0, 1, 1);
    }

    private static void noMixture() {
        RhymeRing x = new RhymeRing();
        Check.rhyme(x, 0, "a");
        Check.rhyme(x, 1, "b");
        Check.rhyme(x, 2, "a b");
        x.born(2, 1);
        dueMixed("one LINE", x, 2, -1, -1, -1, -1);
        Check.rhyme(x, 2, "a/b");
        x.born(2, 1);
        CHECK.due("what 4", x.mixed(2, 4), -1);
        CHECK.due("what -1", x.mixed(2, -1), -1);
        dueMixed("no RHYME", x, 3, -1, -1, -1, -1);
        dueMixed("no SLOT 6", x, 6, -1, -1, -1, -1);
        dueMixed("no SLOT -1", x, -1, -1, -1, -1, -1);
        dueMixed("it is there", x, 2, 0, 0, 1, 1);
        x.forget(1);
        dueMixed("one alone", x, 2, -1, -1, -1, -1);
    }
}
