/**
 * The edges that the document names for RHYMES, how they are COUNTED and their FEET: promises 6,
 * 7, 10, 14, 15 and 17. Each method holds what it quotes.
 */
public final class RhymeEdgeTest {
    private static final Check CHECK = new Check("RhymeEdgeTest");
    private static final int TERMS = Sentences.TERMS;
    private static final int[] NO_SLOTS = {-1, 6, 7, -300, Integer.MIN_VALUE, Integer.MAX_VALUE};

    public static void main(String[] args) {
        slots();
        bytes();
        moreBytes();
        lines();
        oneBlank();
        times();
        word();
        spelled();
        ask();
        firstAlongTheText();
        leastOfOneByte();
        theEnd();
        tooManyLetters();
        tooManyLines();
        dumb();
        stays();
        dayNought();
        forget();
        countedByWords();
        countedByBeats();
        countedOften();
        notCounted();
        feet();
        feetOfNone();
        noFeet();
        alike();
        notAlike();
        CHECK.close();
    }

    private static void due(String text, int lines) {
        RhymeRing x = new RhymeRing();
        CHECK.due("rhyme " + text, Check.rhyme(x, 0, text), lines);
        CHECK.due("fault of " + text, x.fault(), 0);
        CHECK.due("told of " + text, x.told(0), 1);
    }

    private static void fault(String text, int place, int kind) {
        RhymeRing x = new RhymeRing();
        CHECK.dueFault("rhyme " + text, x, Check.rhyme(x, 0, text), place, kind);
        CHECK.due("told of " + text, x.told(0), 0);
    }

    private static String times(int times, String part) {
        StringBuilder text = new StringBuilder();
        for (int i = 0; i < times; i++) {
            text.append(part);
        }
        return text.toString();
    }

    /** WORDS of one letter, the last one of two letters if need be. */
    private static String ofBytes(int size) {
        return size % 2 == 1 ? "b" + times(size / 2, " b") : times(size / 2 - 1, "b ") + "bb";
    }

    // ---- the text of a RHYME

    private static void slots() {
        CHECK.by(TERMS, "RHYMES lie in SLOTS 0 .. 5");
        RhymeRing x = new RhymeRing();
        for (int s = 0; s < 6; s++) {
            CHECK.due("SLOT " + s, Check.rhyme(x, s, times(s, "b ") + "b"), 1);
            CHECK.due("told", x.told(0), s + 1);
        }
        for (int s = 0; s < 6; s++) {
            CHECK.due("each has its own", x.counted(s, false), s + 1);
        }
        CHECK.by(6, "-300: no such SLOT");
        for (int s : NO_SLOTS) {
            x = new RhymeRing();
            CHECK.due("SLOT " + s, Check.rhyme(x, s, "a"), -300);
            CHECK.due("told", x.told(0), 0);
            CHECK.due("a FAULT to no such SLOT " + s, Check.rhyme(x, s, "#"), -300);
            CHECK.due("fault", x.fault(), 0);
        }
    }

    private static void bytes() {
        CHECK.by(TERMS, "a text of at most 240 bytes");
        for (int size = 1; size <= 240; size++) {
            due(ofBytes(size), 1);
        }
        RhymeRing x = new RhymeRing();
        Check.rhyme(x, 0, ofBytes(239));
        CHECK.due("120 ITEMS", x.counted(0, false), 120);
        Check.rhyme(x, 0, ofBytes(240));
        CHECK.due("120 ITEMS, the last of two letters", x.counted(0, false), 120);
        Check.rhyme(x, 0, times(14, "abcdefghijkl! a/") + "abcdefghijkl!/-");
        CHECK.due("letters of 16 LINES", x.counted(0, false), 14 * 13 + 12);
        due(times(15, "abcdefghijkl a/") + "abcdefghijkl a", 16);
    }

    private static void moreBytes() {
        CHECK.by(TERMS, "240, if there are more");
        for (int size = 241; size <= 260; size++) {
            fault(ofBytes(size), 240, 1);
        }
        fault(ofBytes(239) + "b/", 240, 1);
        fault(ofBytes(240) + "#", 240, 1);
        fault(ofBytes(239) + " ", 240, 1);
        fault(ofBytes(239) + "  ", 240, 1);
        fault("b" + times(119, " -") + " -", 240, 1);
        fault("-" + times(120, " -"), 240, 1);
        fault(ofBytes(239) + " ?", 240, 1);
        fault(ofBytes(238) + " ? ", 240, 1);
        fault(ofBytes(238) + " #", 239, 1);
        fault("#" + ofBytes(259), 0, 1);
        fault(ofBytes(226) + " abcdefghijklm", 239, 2);
        fault(ofBytes(227) + " abcdefghijklm", 240, 1);
        fault(times(15, "a/") + ofBytes(209) + "/a", 239, 2);
        fault(times(15, "a/") + ofBytes(210) + "/a", 240, 1);
    }

    private static void lines() {
        CHECK.by(TERMS, "LINE { / LINE }, 16 at most");
        for (int lines = 1; lines <= 16; lines++) {
            due("a" + times(lines - 1, "/a"), lines);
            due("@" + times(lines - 1, "/2x - b!"), lines);
        }
        due("a" + times(14, "/9x a") + "/?", 16);
        CHECK.by(6, "its LINES");
        RhymeRing x = new RhymeRing();
        CHECK.due("LINES", Check.rhyme(x, 0, "a" + times(15, "/a")), 16);
        CHECK.due("the last LINE", x.feet(0, 15), 1);
        CHECK.due("none behind it", x.feet(0, 16), -1);
    }

    private static void oneBlank() {
        CHECK.by(TERMS, "with one blank (32) between");
        due("a b - @ c! ?", 1);
        fault(" a", 0, 1);
        fault("a ", 2, 1);
        fault("a  b", 2, 1);
        fault("a\nb", 1, 1);
        fault("a \nb", 2, 1);
        fault("a\tb", 1, 1);
        fault("a /b", 2, 1);
        fault("a/ b", 2, 1);
        fault("2x  a", 3, 1);
        fault("2x\na", 2, 1);
        fault("2xa", 2, 1);
        fault("-a", 1, 1);
        fault("a-", 1, 1);
        fault("@@", 1, 1);
        fault("a@", 1, 1);
        fault("--", 1, 1);
        fault("a\u00a0b", 1, 1);
    }

    private static void times() {
        CHECK.by(TERMS, "TIMES: 2x to 9x: so often the LINE is said.");
        RhymeRing x = new RhymeRing();
        for (int n = 2; n <= 9; n++) {
            CHECK.due(n + "x", Check.rhyme(x, 0, n + "x a b"), 1);
            CHECK.due(n + "x COUNTED", x.counted(0, false), 2 * n);
        }
        fault("1x a", 0, 1);
        fault("0x a", 0, 1);
        fault("/x a", 0, 1);
        fault(":x a", 0, 1);
        fault("a/1x a", 2, 1);
        fault("a/:x a", 2, 1);
        fault("10x a", 0, 1);
        fault("22x a", 1, 1);
        fault("2X a", 1, 1);
        fault("2y a", 1, 1);
        fault("2w a", 1, 1);
        fault("2 x a", 1, 1);
        fault("x2 a", 1, 1);
        fault("2x/a", 2, 1);
        fault("2x 3x a", 3, 1);
        fault("a 2x", 2, 1);
        fault("a 2x b", 2, 1);
        due("2x x", 1);
    }

    private static void word() {
        CHECK.by(TERMS, "ITEM: a WORD (small letters, 1 to 12)");
        due("a", 1);
        due("z", 1);
        due("abcdefghijkl", 1);
        due("mnopqrstuvwx abcdefghijkl/mnopqrstuvwx", 2);
        fault("abcdefghijklm", 12, 2);
        fault("`", 0, 1);
        fault("{", 0, 1);
        fault("a`", 1, 1);
        fault("z{", 1, 1);
        fault("a `", 2, 1);
        fault("A", 0, 1);
        fault("aZ", 1, 1);
        fault("a1", 1, 1);
        fault("\u00e1", 0, 1);
        fault("a\u0000", 1, 1);
    }

    private static void spelled() {
        CHECK.by(TERMS, "a WORD and ! : spelled");
        due("a!", 1);
        due("abcdefghijkl!", 1);
        RhymeRing x = new RhymeRing();
        Check.rhyme(x, 0, "abcdefghijkl! b! cd!/ef!");
        CHECK.due("its letters", x.counted(0, false), 17);
        fault("abcdefghijklm!", 12, 2);
        fault("!", 0, 1);
        fault("a !", 2, 1);
        fault("a/!", 2, 1);
        fault("a!!", 2, 1);
        fault("a!b", 2, 1);
        fault("a!-", 2, 1);
        fault("-!", 1, 1);
        fault("@!", 1, 1);
        fault("a ?!", 3, 1);
        fault("2!", 1, 1);
    }

    private static void ask() {
        CHECK.by(TERMS, "the last ITEM of the last LINE (without TIMES) may be ? : an ask");
        due("a ?", 1);
        due("a! ?", 1);
        due("@ - ?", 1);
        due("a/?", 2);
        due("2x a/b ?", 2);
        due("2x a/?", 2);
        fault("2x a ?", 5, 1);
        fault("2x ?", 3, 1);
        fault("a/2x b ?", 7, 1);
        fault("a/2x ?", 5, 1);
        fault("a ? b", 3, 1);
        fault("a ? ?", 3, 1);
        fault("a ?/b", 3, 1);
        fault("? a", 1, 1);
        fault("a ??", 3, 1);
        fault("a ? ", 3, 1);
        fault("a?", 1, 1);
        fault("a!?", 2, 1);
        fault("-?", 1, 1);
        fault("@?", 1, 1);
    }

    // ---- FAULTS

    private static void firstAlongTheText() {
        CHECK.by(TERMS, "FAULTS, the first along the text, of one byte the least");
        fault("a#b#", 1, 1);
        fault("abcdefghijklm#", 12, 2);
        fault("a# abcdefghijklm", 1, 1);
        fault("abcdefghijklmnopqrstuvwxyz", 12, 2);
        fault(times(17, "a/") + "#", 31, 2);
        fault(times(15, "a/") + "abcdefghijklm/a", 42, 2);
        fault("a?/abcdefghijklm", 1, 1);
    }

    private static void leastOfOneByte() {
        CHECK.by(TERMS, "1 a byte that can't come (at it");
        fault("abcdefghijkl1", 12, 1);
        fault("abcdefghijklM", 12, 1);
        fault("abcdefghijkl?", 12, 1);
        fault(times(15, "a/") + "a /a", 32, 1);
        fault(times(15, "a/") + "/a", 30, 1);
        fault(times(15, "a/") + "a ?/a", 33, 1);
        fault(times(15, "a/") + "2x/a", 32, 1);
        fault(times(15, "a/") + "2/a", 31, 1);
    }

    private static void theEnd() {
        CHECK.by(TERMS, "the end: how many bytes there are");
        String[] texts = {"", "a ", "a/", "a b ", "a/b/", "2", "2x", "2x ", "a/9", "a/9x",
            "a/9x ", "- ", "a! ", "@/"};
        for (String text : texts) {
            fault(text, text.length(), 1);
        }
        fault(ofBytes(239) + " ", 240, 1);
        fault(ofBytes(239) + "/", 240, 1);
        fault(ofBytes(237) + "/2x", 240, 1);
        fault(ofBytes(238) + " ", 239, 1);
    }

    private static void tooManyLetters() {
        CHECK.by(TERMS, "2 a thirteenth letter (at it)");
        fault("abcdefghijklm", 12, 2);
        fault("a abcdefghijklm", 14, 2);
        fault("a/abcdefghijklm", 14, 2);
        fault("2x abcdefghijklm!", 15, 2);
        fault("aaaaaaaaaaaa aaaaaaaaaaaa aaaaaaaaaaaaa", 38, 2);
        due("aaaaaaaaaaaa aaaaaaaaaaaa aaaaaaaaaaaa", 1);
    }

    private static void tooManyLines() {
        CHECK.by(TERMS, "a seventeenth LINE (at its / )");
        fault("a" + times(16, "/a"), 31, 2);
        fault("a" + times(15, "/a") + "/", 31, 2);
        fault("a" + times(15, "/a") + "/#", 31, 2);
        fault("ab" + times(20, "/a!"), 47, 2);
        fault("a" + times(15, "/a") + "#", 31, 1);
        due("a" + times(15, "/a"), 16);
    }

    private static void dumb() {
        CHECK.by(TERMS, "3, where no other FAULT is, a RHYME without any WORD, spelled one or name "
            + "(at 0)");
        String[] none = {"-", "?", "- ?", "- - -", "-/?", "2x -", "2x - -/9x -/- ?",
            "-" + times(15, "/-"), "-" + times(119, " -")};
        String[] some = {"a", "a!", "@", "- a", "- a!", "- @", "-/a", "-/2x a! -", "-/9x @",
            "a ?", "@/?"};
        for (String text : none) {
            fault(text, 0, 3);
        }
        for (String text : some) {
            due(text, text.split("/").length);
        }
        fault("- -?", 3, 1);
        fault("-/", 2, 1);
        fault("-" + times(16, "/-"), 31, 2);
        RhymeRing x = new RhymeRing();
        for (String text : some) {
            CHECK.due("one behind another: " + text, Check.rhyme(x, 0, text) > 0, true);
            CHECK.due("one behind another: " + text, Check.rhyme(x, 0, text) > 0, true);
            CHECK.dueFault("and then none", x, Check.rhyme(x, 0, "- ?"), 0, 3);
        }
    }

    private static void stays() {
        CHECK.by(6, "-1 - the place of a FAULT: it stays");
        RhymeRing x = new RhymeRing();
        Check.rhyme(x, 0, "z");
        Check.rhyme(x, 4, "2x banana/b");
        x.born(4, 5);
        String[] wrong = {"", "-", "a ", "2x a b/c/#", "abcdefghijklm", "?", ofBytes(241),
            times(17, "a/")};
        for (String text : wrong) {
            CHECK.due("a FAULT in " + text, Check.rhyme(x, 4, text) < 0, true);
            CHECK.due("COUNTED", x.counted(4, true), 7);
            CHECK.due("its LINES", x.feet(4, 1), 1);
            CHECK.due("no third LINE", x.feet(4, 2), -1);
            CHECK.due("its DAY", x.parent(4), 0);
            CHECK.due("RHYMES", x.told(0), 2);
        }
    }

    private static void dayNought() {
        CHECK.by(6, "SLOT s is the RHYME of the tape, of DAY 0");
        RhymeRing x = new RhymeRing();
        Check.rhyme(x, 0, "a");
        Check.rhyme(x, 1, "a");
        for (int i = 0; i < 4; i++) {
            x.born(1, 999);
            CHECK.due("of DAY 999", x.parent(1), 0);
            Check.rhyme(x, 1, "b");
            CHECK.due("of DAY 0, no lesser one", x.parent(1), -1);
            x.born(0, 1);
            CHECK.due("of DAY 0, lesser than 1", x.parent(0), 1);
            x.born(0, 0);
        }
        x.born(1, 5);
        x.forget(1);
        Check.rhyme(x, 1, "b");
        CHECK.due("of DAY 0 where one was forgotten", x.parent(1), -1);
    }

    private static void forget() {
        RhymeRing x = new RhymeRing();
        for (int s = 0; s < 6; s++) {
            Check.rhyme(x, s, "a");
        }
        for (int s = 0; s < 6; s++) {
            CHECK.by(10, "SLOT s is empty again: true");
            CHECK.due("forget " + s, x.forget(s), true);
            CHECK.due("counted " + s, x.counted(s, true), -1);
            CHECK.due("RHYMES", x.told(0), 5 - s);
            CHECK.by(10, "false: it was, or there is none");
            CHECK.due("forget again " + s, x.forget(s), false);
            CHECK.due("RHYMES", x.told(0), 5 - s);
        }
        Check.rhyme(x, 0, "a");
        for (int s : NO_SLOTS) {
            CHECK.due("forget " + s, x.forget(s), false);
            CHECK.due("RHYMES", x.told(0), 1);
        }
    }

    // ---- COUNTED

    private static void dueCounted(String text, boolean beats, int want) {
        RhymeRing x = new RhymeRing();
        Check.rhyme(x, 5, text);
        CHECK.due("counted " + text, x.counted(5, beats), want);
    }

    private static void countedByWords() {
        CHECK.by(TERMS, "COUNTED by words: a WORD 1, a spelled one its letters, a rest 0");
        dueCounted("banana", false, 1);
        dueCounted("z", false, 1);
        dueCounted("banana!", false, 6);
        dueCounted("z!", false, 1);
        dueCounted("abcdefghijkl!", false, 12);
        dueCounted("a - - -", false, 1);
        CHECK.by(14, "its names and its ask being 0");
        dueCounted("@", false, 0);
        dueCounted("- @ @ ?", false, 0);
        dueCounted("banana @ b! - ?", false, 2);
    }

    private static void countedByBeats() {
        CHECK.by(TERMS, "by beats: a WORD its BEATS, a spelled one its letters, a rest 1");
        dueCounted("banana", true, 3);
        dueCounted("z", true, 1);
        dueCounted("aeiouyaeiouy", true, 12);
        dueCounted("banana!", true, 6);
        dueCounted("a - - -", true, 4);
        CHECK.by(14, "its names and its ask being 0");
        dueCounted("@", true, 0);
        dueCounted("- @ @ ?", true, 1);
        dueCounted("banana @ b! - ?", true, 5);
    }

    private static void countedOften() {
        CHECK.by(TERMS, "so often the LINE is said");
        dueCounted("9x banana", true, 27);
        dueCounted("9x banana", false, 9);
        dueCounted("2x banana -/b!/3x - @ a b/c ?", true, 2 * 4 + 1 + 3 * 3 + 1);
        dueCounted("2x banana -/b!/3x - @ a b/c ?", false, 2 + 1 + 3 * 2 + 1);
        dueCounted("2x a/3x a/4x a/5x a/6x a/7x a/8x a/9x a", false, 44);
        dueCounted("9x aaaaaaaaaaaa" + times(17, " aaaaaaaaaaaa"), true, 9 * 12 * 18);
    }

    private static void notCounted() {
        CHECK.by(14, "NONE: no RHYME");
        RhymeRing x = new RhymeRing();
        Check.rhyme(x, 3, "a");
        for (int s = 0; s < 6; s++) {
            CHECK.due("counted " + s, x.counted(s, true), s == 3 ? 1 : -1);
            CHECK.due("counted " + s, x.counted(s, false), s == 3 ? 1 : -1);
        }
        for (int s : NO_SLOTS) {
            CHECK.due("counted " + s, x.counted(s, true), -1);
            CHECK.due("counted " + s, x.counted(s, false), -1);
        }
        x.forget(3);
        CHECK.due("forgotten", x.counted(3, true), -1);
    }

    // ---- FEET

    private static void dueFeet(RhymeRing x, int line, String feet) {
        CHECK.due("feet of LINE " + line, x.feet(1, line), feet.length());
        CHECK.due("told of LINE " + line, x.told(4), feet.length());
        CHECK.dueOut("LINE " + line, x, feet);
    }

    private static void feet() {
        CHECK.by(TERMS, "for each BEAT (by beats; a name 1, an ask 0) strong or weak: the STRONG "
            + "one of a WORD, all of a spelled one and of a name are strong, rests weak");
        RhymeRing x = new RhymeRing();
        Check.rhyme(x, 1, "banana/banana!/@ - @/z out/9x - moe ban!/a ?");
        Check.people(x, "banana");
        Check.yard(x, "count words;");
        dueFeet(x, 0, "100");
        dueFeet(x, 1, "111111");
        dueFeet(x, 2, "101");
        dueFeet(x, 3, "110");
        CHECK.by(TERMS, "FEET of a LINE, said once");
        dueFeet(x, 4, "010111");
        dueFeet(x, 5, "1");
        Check.tongue(x, "strong second;");
        dueFeet(x, 0, "010");
        dueFeet(x, 3, "101");
        Check.tongue(x, "strong last;mute a;");
        dueFeet(x, 0, "01");
        dueFeet(x, 3, "101");
        CHECK.by(15, "OUT is a byte for each, 1 strong, 0 weak: how many");
        Check.tongue(x, "strong last;");
        Check.rhyme(x, 1, "aaaaaaaaaaaa" + times(17, " aaaaaaaaaaaa") + " aaa");
        dueFeet(x, 0, times(18, "000000000001") + "001");
        Check.rhyme(x, 1, "abcdefghijkl!" + times(16, " abcdefghijkl!") + " a");
        dueFeet(x, 0, times(17 * 12 + 1, "1"));
    }

    private static void feetOfNone() {
        CHECK.by(TERMS, "an ask 0");
        RhymeRing x = new RhymeRing();
        Check.rhyme(x, 1, "a/?");
        dueFeet(x, 0, "1");
        dueFeet(x, 1, "");
        CHECK.due("OUT is empty", Check.octet(x, 0), Check.THROWN);
    }

    private static void noFeet() {
        CHECK.by(15, "NONE (OUT stays): no RHYME, or no such LINE");
        RhymeRing x = new RhymeRing();
        Check.rhyme(x, 0, "banana/b/a");
        Check.rhyme(x, 1, "a" + times(15, "/b"));
        x.feet(0, 0);
        int[] wrong = {-1, 3, 4, 15, 16, 17, Integer.MIN_VALUE, Integer.MAX_VALUE};
        for (int line : wrong) {
            CHECK.due("no such LINE " + line, x.feet(0, line), -1);
            CHECK.dueOut("stays", x, "100");
        }
        CHECK.due("LINE 16 of 16", x.feet(1, 16), -1);
        CHECK.due("LINE -1 of 16", x.feet(1, -1), -1);
        for (int s = 2; s < 6; s++) {
            CHECK.due("no RHYME " + s, x.feet(s, 0), -1);
        }
        for (int s : NO_SLOTS) {
            CHECK.due("no SLOT " + s, x.feet(s, 0), -1);
        }
        CHECK.dueOut("stays", x, "100");
        Check.rhyme(x, 0, "a b");
        CHECK.due("LINE 1 of the RHYME before", x.feet(0, 1), -1);
        x.forget(1);
        CHECK.due("forgotten", x.feet(1, 0), -1);
        CHECK.due("OUT stays", x.told(4), 3);
        CHECK.due("LINE 0 of the new one", x.feet(0, 0), 2);
    }

    private static void dueAlike(String one, String other, int want) {
        RhymeRing x = new RhymeRing();
        Check.rhyme(x, 0, one);
        Check.rhyme(x, 5, other);
        CHECK.due(one + " alike " + other, x.alike(0, 5), want);
        CHECK.due(other + " alike " + one, x.alike(5, 0), want);
        CHECK.due(one + " alike itself", x.alike(0, 0), one.split("/").length);
    }

    private static void alike() {
        CHECK.by(17, "How many LINES, from the first on, have the same FEET (said as often) in "
            + "both");
        dueAlike("a", "b", 1);
        dueAlike("a", "out", 0);
        dueAlike("out", "a -", 1);
        dueAlike("@", "a", 1);
        dueAlike("ab!", "c d", 1);
        dueAlike("ab!", "out", 0);
        dueAlike("a -", "- a", 0);
        dueAlike("a b", "- b", 0);
        dueAlike("a b", "a -", 0);
        dueAlike("a/b", "a/-", 1);
        dueAlike("2x a", "a", 0);
        dueAlike("2x a", "a a", 0);
        dueAlike("2x a", "3x a", 0);
        dueAlike("9x a", "9x b", 1);
        dueAlike("a/b", "a", 1);
        dueAlike("a/?", "b/?", 2);
        dueAlike("a/?", "b", 1);
        dueAlike("a ?", "b", 1);
        dueAlike("a/out/a", "a/a/a", 1);
        dueAlike("a" + times(15, "/out"), "b" + times(15, "/one"), 16);
        dueAlike("a" + times(14, "/out") + "/a", "b" + times(14, "/one") + "/one", 15);
        dueAlike("abcdefghijkl!" + times(17, " a"), "lkjihgfedcba!" + times(17, " b"), 1);
        dueAlike("abcdefghijkl!" + times(17, " a") + " a", "lkjihgfedcba!" + times(17, " b") + " -",
            0);
    }

    private static void notAlike() {
        CHECK.by(17, "NONE: there are not both RHYMES");
        RhymeRing x = new RhymeRing();
        Check.rhyme(x, 2, "a");
        for (int s = 0; s < 6; s++) {
            CHECK.due("2 and " + s, x.alike(2, s), s == 2 ? 1 : -1);
            CHECK.due(s + " and 2", x.alike(s, 2), s == 2 ? 1 : -1);
        }
        for (int s : NO_SLOTS) {
            CHECK.due("2 and " + s, x.alike(2, s), -1);
            CHECK.due(s + " and 2", x.alike(s, 2), -1);
            CHECK.due(s + " and " + s, x.alike(s, s), -1);
        }
    }
}
