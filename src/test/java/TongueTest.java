/** Promises 4, 7, 12 and 13: THE TONGUE, its FAULTS, BEATS and which one is STRONG. */
public final class TongueTest {
    private static final Check CHECK = new Check("TongueTest");

    public static void main(String[] args) {
        rules();
        faults();
        lists();
        faultChangesNothing();
        vowels();
        joined();
        mute();
        strong();
        words();
        CHECK.close();
    }

    private static void rules() {
        RhymeRing x = new RhymeRing();
        CHECK.due("no RULE", Check.tongue(x, ""), 0);
        CHECK.due("blanks alone", Check.tongue(x, " \n  "), 0);
        CHECK.due("four RULES",
            Check.tongue(x, "strong last;mute e;joined ea ee;vowels aeiou;"), 4);
        CHECK.due("no FAULT", x.fault(), 0);
        CHECK.due("blanks between all", Check.tongue(x, "\nvowels \n ae\n;  strong first ; "), 2);
        CHECK.due("the tape is empty", x.told(3), 0);
    }

    private static void fault(String text, int place, int kind) {
        RhymeRing x = new RhymeRing();
        CHECK.dueFault("tongue " + text, x, Check.tongue(x, text), place, kind);
        CHECK.due("the tape is empty with a FAULT", x.told(3), 0);
    }

    private static void faults() {
        fault("vowels", 6, 2);
        fault("vowels ", 7, 2);
        fault("vowels a", 8, 2);
        fault("vowels a \n", 10, 2);
        fault("vowels;", 6, 2);
        fault("vowels 1;", 7, 2);
        fault("vowels 12;", 7, 1);
        fault("vowels a1;", 7, 1);
        fault("vowels 1a;", 7, 1);
        fault("vowels A;", 7, 1);
        fault("vowels\ta;", 6, 1);
        fault("vowels abcdefghijklm;", 7, 1);
        fault("vowels a b;", 9, 2);
        fault("vowels a;;", 9, 2);
        fault("vowels a;vowels b;", 9, 4);
        fault("vowels a;strong last;vowels", 21, 4);
        fault("vowelsa;", 0, 2);
        fault("xowels a;", 0, 2);
        fault("vowelx a;", 0, 2);
        fault("Vowels a;", 0, 1);
        fault(";", 0, 2);
        fault("7", 0, 2);
        fault("first;", 0, 2);
        fault("strong;", 6, 2);
        fault("strong third;", 7, 2);
        fault("strong 1;", 7, 2);
        fault("strong first last;", 13, 2);
        fault("vowels a;\u00e9", 9, 1);
        fault("vowels a;count words;", 9, 2);
    }

    private static void lists() {
        RhymeRing x = new RhymeRing();
        CHECK.due("12 joined", Check.tongue(x,
            "joined aa ab ac ad ae af ag ah ai aj ak al;"), 1);
        CHECK.due("6 mute", Check.tongue(x, "mute a ab abc d ef ghi;"), 1);
        fault("joined aa ab ac ad ae af ag ah ai aj ak al am;", 43, 3);
        fault("joined aa ab ac ad ae af ag ah ai aj ak al 1;", 43, 2);
        fault("joined aa ab ac ad ae af ag ah ai aj ak al a1;", 43, 1);
        fault("joined;", 6, 2);
        fault("joined a;", 7, 3);
        fault("joined abc;", 7, 3);
        fault("joined aa 2;", 10, 2);
        fault("joined aa", 9, 2);
        fault("mute;", 4, 2);
        fault("mute abcd;", 5, 3);
        fault("mute a b c d e f g;", 17, 3);
        fault("mute a #;", 7, 1);
        fault("mute a;mute b;", 7, 4);
        fault("joined aa;joined bb;", 10, 4);
        fault("strong last;strong last;", 12, 4);
    }

    private static void faultChangesNothing() {
        RhymeRing x = new RhymeRing();
        Check.tongue(x, "vowels b;strong last;");
        CHECK.due("a FAULT behind two RULES",
            Check.tongue(x, "vowels a;strong first;mute abcd;"), -28);
        CHECK.due("fault", x.fault(), 3);
        CHECK.due("the vowels stay", Check.beats(x, "baab"), 2);
        CHECK.due("strong stays", Check.strong(x, "baab"), 1);
        CHECK.due("another text", Check.tongue(x, "mute b;"), 1);
        CHECK.due("fault is 0 again", x.fault(), 0);
        CHECK.due("what is not told is as usual", Check.beats(x, "baab"), 2);
        CHECK.due("and strong first", Check.strong(x, "baab"), 0);
    }

    private static void vowels() {
        RhymeRing x = new RhymeRing();
        CHECK.due("each vowel is one", Check.beats(x, "queue"), 4);
        CHECK.due("y too", Check.beats(x, "sky"), 1);
        CHECK.due("one at least", Check.beats(x, "brr"), 1);
        CHECK.due("twelve", Check.beats(x, "aaaaaaaaaaaa"), 12);
        Check.tongue(x, "vowels rz;");
        CHECK.due("other vowels", Check.beats(x, "zaar"), 2);
        CHECK.due("no vowel", Check.beats(x, "aeiouy"), 1);
        CHECK.due("vowels of twelve letters", Check.tongue(x, "vowels abcdefghijkl;"), 1);
        CHECK.due("all twelve", Check.beats(x, "abcdefghijkl"), 12);
        Check.tongue(x, "");
        CHECK.due("as without texts", Check.beats(x, "zaar"), 2);
    }

    private static void joined() {
        RhymeRing x = new RhymeRing();
        Check.tongue(x, "joined ue eu;");
        CHECK.due("the second is not first of another two", Check.beats(x, "queue"), 2);
        CHECK.due("ueu", Check.beats(x, "ueu"), 2);
        Check.tongue(x, "joined aa;");
        CHECK.due("aa", Check.beats(x, "aa"), 1);
        CHECK.due("aaa", Check.beats(x, "aaa"), 2);
        CHECK.due("aaaa", Check.beats(x, "aaaa"), 2);
        CHECK.due("not next to each other", Check.beats(x, "aba"), 2);
        Check.tongue(x, "joined ab ba;");
        CHECK.due("not both are vowels", Check.beats(x, "aba"), 2);
        Check.tongue(x, "vowels ab;joined ab;");
        CHECK.due("of other vowels", Check.beats(x, "aab"), 2);
        CHECK.due("not the other way", Check.beats(x, "ba"), 2);
        Check.tongue(x, "joined aa;mute e;");
        Check.tongue(x, "vowels ae;");
        CHECK.due("none joined, none mute", Check.beats(x, "aae"), 3);
    }

    private static void mute() {
        RhymeRing x = new RhymeRing();
        Check.tongue(x, "mute e;");
        CHECK.due("apple", Check.beats(x, "apple"), 1);
        CHECK.due("no BEAT ahead", Check.beats(x, "the"), 1);
        CHECK.due("e", Check.beats(x, "e"), 1);
        CHECK.due("bee", Check.beats(x, "bee"), 1);
        CHECK.due("beer", Check.beats(x, "beer"), 2);
        Check.tongue(x, "mute e ate;");
        CHECK.due("the longest alone, without a BEAT ahead", Check.beats(x, "ate"), 2);
        CHECK.due("the longest, with one", Check.beats(x, "create"), 1);
        Check.tongue(x, "mute ion;");
        CHECK.due("all of the ending", Check.beats(x, "nation"), 1);
        Check.tongue(x, "joined ie;mute e;");
        CHECK.due("a joined one ahead of the ending", Check.beats(x, "pie"), 1);
        CHECK.due("joined and mute", Check.beats(x, "ieie"), 2);
    }

    private static void strong() {
        RhymeRing x = new RhymeRing();
        CHECK.due("first", Check.strong(x, "banana"), 0);
        Check.tongue(x, "strong second;");
        CHECK.due("second", Check.strong(x, "banana"), 1);
        CHECK.due("the first, if it has one", Check.strong(x, "out"), 1);
        CHECK.due("of one BEAT", Check.strong(x, "b"), 0);
        Check.tongue(x, "strong last;mute a;");
        CHECK.due("last", Check.strong(x, "banana"), 1);
        CHECK.due("last of one", Check.strong(x, "moe"), 1);
        CHECK.due("last of none told", Check.strong(x, "b"), 0);
    }

    private static void words() {
        String[] wrong = {"", "a b", " a", "a ", "A", "a1", "1", "a!", "a\n", "abcdefghijklm",
            "a\u00e9"};
        for (String text : wrong) {
            RhymeRing x = new RhymeRing();
            CHECK.due("beats of " + text, Check.beats(x, text), -1);
            CHECK.due("the tape is empty", x.told(3), 0);
            CHECK.due("strong of " + text, Check.strong(x, text), -1);
            CHECK.due("the tape is empty", x.told(3), 0);
        }
        RhymeRing x = new RhymeRing();
        CHECK.due("twelve letters", Check.beats(x, "abcdefghijkl"), 3);
        CHECK.due("the tape is empty behind a WORD", x.told(3), 0);
        CHECK.due("no FAULT of this", x.fault(), 0);
    }
}
