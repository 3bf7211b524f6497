import java.util.function.ToIntFunction;

/**
 * The edges that the document names for the tape, OUT, texts of RULES and WORDS: promises 1 to 5,
 * 7 to 9, 12, 13, 16 and 31. Each method holds what it quotes.
 */
public final class TextEdgeTest {
    private static final Check CHECK = new Check("TextEdgeTest");
    private static final int TERMS = Sentences.TERMS;
    private static final String[] TONGUE_RULES = {"vowels a;", "joined aa;", "mute a;",
        "strong last;"};
    private static final String[] YARD_RULES = {"count words;", "by fists;", "hit stays;",
        "then same;", "turn always;", "left 2;", "rhymes 1;", "aim left;"};

    public static void main(String[] args) {
        newRules();
        newRhymesAndWords();
        newTape();
        feedOrder();
        feedTooMuch();
        end();
        endRefused();
        tapeEmptied();
        tapeUntouched();
        blanks();
        words();
        numbers();
        runs();
        firstAlongTheText();
        leastOfOneToken();
        cannotCome();
        theEnd();
        notAsTold();
        oneTooMany();
        toldTwice();
        howManyRules();
        tongueNotTold();
        yardNotTold();
        tongueStays();
        yardStays();
        fault();
        people();
        answers();
        beatsOfWords();
        joined();
        mute();
        strongOfWords();
        noWord();
        octet();
        told();
        CHECK.close();
    }

    // ---- a new object

    private static void newRules() {
        CHECK.by(1, "THE TONGUE, THE YARD as without texts");
        dueUsualTongue(new RhymeRing());
        dueUsualYard(new RhymeRing());
    }

    private static void newRhymesAndWords() {
        RhymeRing x = new RhymeRing();
        CHECK.by(TERMS, "RHYMES lie in SLOTS 0 .. 5 (none at first)");
        CHECK.due("RHYMES", x.told(0), 0);
        for (int s = 0; s < 6; s++) {
            CHECK.due("counted " + s, x.counted(s, true), -1);
            CHECK.due("forget " + s, x.forget(s), false);
        }
        CHECK.by(1, "PEOPLE are one, the NAME a");
        CHECK.due("PEOPLE", x.told(1), 1);
        CHECK.due("no second one", x.sure(1), -1);
        CHECK.due("no second one to be HIT", Check.explain(x, 1), -1);
        CHECK.by(1, "ANSWERS are one, a");
        CHECK.due("ANSWERS", x.told(2), 1);
        Check.people(x, "x y z");
        Check.rhyme(x, 0, "b b ?");
        Check.yard(x, "hit stays;");
        CHECK.due("one letter on", Check.play(x, 0), 4);
        CHECK.due("no second ANSWER", Check.play(x, 1), -1);
        CHECK.due("no choice", Check.share(x, 2, 1), 1);
    }

    private static void newTape() {
        RhymeRing x = new RhymeRing();
        CHECK.by(1, "an empty tape, OUT");
        CHECK.due("bytes of the tape", x.told(3), 0);
        CHECK.due("end 1", x.end(1), false);
        CHECK.due("bytes of OUT", x.told(4), 0);
        CHECK.due("octet 0", Check.octet(x, 0), Check.THROWN);
    }

    // ---- the tape

    private static void feedOrder() {
        RhymeRing x = new RhymeRing();
        CHECK.by(2, "Twenty bytes come behind the tape, of each number the highest first");
        // "vowe" "ls a" "b;st" "rong" " las", and behind them "t;" with bytes above 127.
        CHECK.due("first twenty", x.feed(0x766f7765, 0x6c732061, 0x623b7374, 0x726f6e67,
            0x206c6173), 20);
        CHECK.due("twenty more", x.feed(0x743bffff, -1, -1, -1, Integer.MIN_VALUE), 40);
        x.end(22);
        CHECK.due("two RULES", x.tongue(), 2);
        CHECK.due("strong last of aab", Check.strong(x, "aab"), 2);
        x.feed(0x3b808080, 0, 0, 0, 0);
        CHECK.dueFault("a byte above 127", x, x.tongue(), 0, 2);
        x.feed(0x80808080, 0, 0, 0, 0);
        CHECK.dueFault("the highest byte first", x, x.tongue(), 0, 1);
        CHECK.by(2, "how many it has");
        Check.put(x, "abc");
        CHECK.due("three and twenty", x.feed(0, 0, 0, 0, 0), 23);
        x.end(0);
        CHECK.due("none and twenty", x.feed(0, 0, 0, 0, 0), 20);
    }

    private static void feedTooMuch() {
        CHECK.by(2, "NONE, and none come, if it would have more than 260");
        for (int size = 239; size <= 260; size++) {
            RhymeRing x = new RhymeRing();
            Check.put(x, padded("vowels a;", size));
            CHECK.due("feed behind " + size, x.feed(-1, -1, -1, -1, -1),
                size <= 240 ? size + 20 : -1);
            CHECK.due("told behind " + size, x.told(3), size <= 240 ? size + 20 : size);
            x.end(size);
            CHECK.due("the tape of " + size + " bytes", x.tongue(), 1);
        }
    }

    private static String padded(String text, int size) {
        StringBuilder padded = new StringBuilder(text);
        while (padded.length() < size) {
            padded.append(' ');
        }
        return padded.toString();
    }

    private static void end() {
        RhymeRing x = new RhymeRing();
        CHECK.by(3, "The tape has its first n bytes alone: true");
        for (int n = 0; n <= 5; n++) {
            Check.put(x, "baaaa");
            CHECK.due("end " + n, x.end(n), true);
            CHECK.due("bytes behind end " + n, x.told(3), n);
            CHECK.due("BEATS behind end " + n, x.beats(), n == 0 ? -1 : Math.max(1, n - 1));
        }
    }

    private static void endRefused() {
        RhymeRing x = new RhymeRing();
        CHECK.by(3, "false, if it has not so many, or n is below 0");
        int[] wrong = {6, 7, 260, 261, Integer.MAX_VALUE, -1, -5, Integer.MIN_VALUE};
        for (int n : wrong) {
            Check.put(x, "baaaa");
            CHECK.due("end " + n, x.end(n), false);
            CHECK.due("bytes behind end " + n, x.told(3), 5);
            CHECK.due("BEATS behind end " + n, x.beats(), 4);
        }
        CHECK.due("of an empty tape", x.end(1), false);
    }

    private static void dueEmptied(String what, ToIntFunction<RhymeRing> call, int... bytes) {
        RhymeRing x = new RhymeRing();
        Check.rhyme(x, 0, "a");
        Check.put(x, bytes);
        call.applyAsInt(x);
        CHECK.due("tape behind " + what, x.told(3), 0);
        CHECK.due("feed behind " + what, x.feed(1, 2, 3, 4, 5), 20);
    }

    private static void tapeEmptied() {
        CHECK.by(4, "(empty then, with a FAULT, too, here and below)");
        int[] blank = {32};
        int[] odd = {35};
        int[] word = {'a'};
        dueEmptied("tongue", RhymeRing::tongue, blank);
        dueEmptied("tongue with a FAULT", RhymeRing::tongue, odd);
        dueEmptied("yard", RhymeRing::yard, blank);
        dueEmptied("yard with a FAULT", RhymeRing::yard, odd);
        dueEmptied("rhyme", x -> x.rhyme(5), word);
        dueEmptied("rhyme with a FAULT", x -> x.rhyme(5), odd);
        dueEmptied("rhyme -300", x -> x.rhyme(6), word);
        dueEmptied("people", RhymeRing::people, word);
        dueEmptied("people NONE", RhymeRing::people, odd);
        dueEmptied("answers", RhymeRing::answers, word);
        dueEmptied("answers NONE", RhymeRing::answers, odd);
        dueEmptied("beats", RhymeRing::beats, word);
        dueEmptied("beats NONE", RhymeRing::beats, odd);
        dueEmptied("strong", RhymeRing::strong, word);
        dueEmptied("strong NONE", RhymeRing::strong, odd);
        dueEmptied("play", RhymeRing::play, 0);
        dueEmptied("play NONE", RhymeRing::play, odd);
        dueEmptied("holds", RhymeRing::holds, 0);
        dueEmptied("holds NONE", RhymeRing::holds, odd);
        dueEmptied("explain", RhymeRing::explain, 0);
        dueEmptied("explain NONE", RhymeRing::explain, odd);
    }

    /** Calls that do not tell of the tape leave it as it is, and what it has is not theirs. */
    private static void tapeUntouched() {
        CHECK.by(3, "The tape has its first n bytes alone");
        RhymeRing x = new RhymeRing();
        Check.rhyme(x, 0, "a");
        Check.put(x, "baaaa");
        x.fault();
        x.forget(1);
        x.born(0, 1);
        x.counted(0, true);
        x.feet(0, 0);
        Check.octet(x, 0);
        x.alike(0, 0);
        x.hit(0);
        x.last(5);
        x.game(0);
        x.says(0);
        x.sure(0);
        Check.share(x, 0, 0);
        x.mend();
        x.changes(0, 0);
        x.parent(0);
        x.mixed(0, 0);
        x.told(3);
        CHECK.due("bytes", x.told(3), 5);
        CHECK.due("BEATS", x.beats(), 4);
    }

    // ---- TOKENS and FAULTS

    private static void tongueFault(String text, int place, int kind) {
        RhymeRing x = new RhymeRing();
        CHECK.dueFault("tongue " + text, x, Check.tongue(x, text), place, kind);
    }

    private static void yardFault(String text, int place, int kind) {
        RhymeRing x = new RhymeRing();
        CHECK.dueFault("yard " + text, x, Check.yard(x, text), place, kind);
    }

    private static void dueTongue(String text, int rules) {
        RhymeRing x = new RhymeRing();
        CHECK.due("tongue " + text, Check.tongue(x, text), rules);
        CHECK.due("fault of " + text, x.fault(), 0);
    }

    private static void dueYard(String text, int rules) {
        RhymeRing x = new RhymeRing();
        CHECK.due("yard " + text, Check.yard(x, text), rules);
        CHECK.due("fault of " + text, x.fault(), 0);
    }

    private static void blanks() {
        CHECK.by(TERMS, "TEXTS of THE TONGUE and of THE YARD have TOKENS, with blanks (32, 10) "
            + "between them or not");
        dueTongue("vowels a;strong last;", 2);
        dueTongue("\n \n vowels\n\na \n ; \n\n", 1);
        dueYard("left 1;rhymes\n0\n \n1;", 2);
        int[] others = {0, 9, 11, 12, 13, 31, 33, 95, 127, 133, 160, 255};
        for (int other : others) {
            char sign = (char) other;
            tongueFault("vowels" + sign + "a;", 6, 1);
            tongueFault(sign + "vowels a;", 0, 1);
            yardFault("left 1;" + sign, 7, 1);
        }
    }

    private static void words() {
        CHECK.by(TERMS, "WORDS: small letters, 1 to 12");
        dueTongue("vowels z;", 1);
        dueTongue("vowels abcdefghijkl;", 1);
        dueTongue("vowels mnopqrstuvwx;", 1);
        tongueFault("vowels abcdefghijklm;", 7, 1);
        tongueFault("abcdefghijklm", 0, 1);
        tongueFault("vowels `;", 7, 1);
        tongueFault("vowels {;", 7, 1);
        tongueFault("vowels a`;", 8, 1);
        tongueFault("vowels z{;", 8, 1);
        tongueFault("vowels A;", 7, 1);
        tongueFault("vowels aZ;", 8, 1);
        tongueFault("vowels @;", 7, 1);
        tongueFault("vowels \u00e1;", 7, 1);
    }

    private static void numbers() {
        CHECK.by(TERMS, "NUMBERS: one digit");
        dueYard("left 9;", 1);
        dueYard("rhymes 0;", 1);
        yardFault("left 11;", 5, 1);
        yardFault("left 01;", 5, 1);
        yardFault("left /;", 5, 1);
        yardFault("left :;", 5, 1);
        yardFault("left 1/;", 6, 1);
        yardFault("left 1:;", 6, 1);
        yardFault("rhymes 00;", 7, 1);
        yardFault("rhymes 5 55;", 9, 1);
        yardFault("left -1;", 5, 1);
    }

    private static void runs() {
        CHECK.by(TERMS, "A WORD, NUMBER goes on as long as small letters and digits do; what is "
            + "not as told is no TOKEN");
        tongueFault("vowels a1b;", 7, 1);
        tongueFault("vowels 1a;", 7, 1);
        tongueFault("vowels1 a;", 0, 1);
        tongueFault("1vowels a;", 0, 1);
        tongueFault("vowels a;strong9", 9, 1);
        tongueFault("mute a b0;", 7, 1);
        yardFault("left 1a;", 5, 1);
        yardFault("left1;", 0, 1);
        yardFault("rhymes 0 a0;", 9, 1);
        tongueFault("vowelsa;", 0, 2);
        yardFault("leftout;", 0, 2);
    }

    private static void firstAlongTheText() {
        CHECK.by(TERMS, "FAULTS of both, the first along the text");
        tongueFault("loud #", 0, 2);
        tongueFault("# loud", 0, 1);
        tongueFault("vowels a;joined abc #", 16, 3);
        tongueFault("vowels a;joined aa #", 19, 1);
        tongueFault("strong first;strong #", 13, 4);
        tongueFault("strong # strong", 7, 1);
        yardFault("left 0;left 1;", 5, 3);
        yardFault("left 1;left 0;", 7, 4);
        yardFault("left 1 left 1;", 7, 2);
        yardFault("rhymes 6 6 6 6 6", 7, 3);
    }

    private static void leastOfOneToken() {
        CHECK.by(TERMS, "of one TOKEN the least");
        tongueFault("joined aa ab ac ad ae af ag ah ai aj ak al am1;", 43, 1);
        tongueFault("joined aa ab ac ad ae af ag ah ai aj ak al 7;", 43, 2);
        tongueFault("joined 1;", 7, 2);
        tongueFault("joined 11;", 7, 1);
        tongueFault("mute a b c d e f abcdefghijklm;", 17, 1);
        tongueFault("vowels a b;", 9, 2);
        tongueFault("strong first first;", 13, 2);
        yardFault("rhymes 0 1 2 3 44;", 15, 1);
        yardFault("rhymes 0 1 2 3 left", 15, 2);
        yardFault("left 1 0;", 7, 2);
        yardFault("left a;", 5, 2);
        yardFault("rhymes six;", 7, 2);
    }

    private static void cannotCome() {
        CHECK.by(TERMS, "2 one that can't come");
        String[] prefixes = {"v", "vowel", "join", "mut", "stron", "vowelss", "rhymes", "count"};
        for (String rule : prefixes) {
            tongueFault(rule + " a;", 0, 2);
        }
        String[] strong = {"f", "firs", "firsts", "seconds", "las", "vowels", "first2"};
        for (String word : strong) {
            tongueFault("strong " + word + ";", 7, word.equals("first2") ? 1 : 2);
        }
        String[] rules = {"c", "coun", "counts", "b", "bye", "hits", "the", "tur", "lef", "rhyme",
            "ai", "vowels"};
        for (String rule : rules) {
            yardFault(rule + " 1;", 0, 2);
        }
        String[] choices = {"count word", "count beat", "count heads", "by head", "by fist",
            "by words", "hit ou", "hit stay", "hit left", "then nex", "then sam", "then calle",
            "then never", "turn neve", "turn alway", "turn next", "aim lef", "aim fre", "aim out"};
        for (String choice : choices) {
            yardFault(choice + ";", choice.indexOf(' ') + 1, 2);
        }
        tongueFault(";", 0, 2);
        tongueFault("vowels a;;", 9, 2);
        yardFault("left 1;;", 7, 2);
        yardFault("7", 0, 2);
    }

    private static void theEnd() {
        CHECK.by(TERMS, "(the end: how many bytes there are)");
        String[] tongues = {"vowels", "vowels a", "joined", "joined aa", "mute", "mute a b",
            "strong", "strong last", "vowels a;strong", "vowels\n\n", "vowels a  "};
        for (String text : tongues) {
            tongueFault(text, text.length(), 2);
        }
        for (String rule : YARD_RULES) {
            String text = rule.substring(0, rule.length() - 1);
            yardFault(text, text.length(), 2);
            yardFault(text + " ", text.length() + 1, 2);
            String word = rule.substring(0, rule.indexOf(' '));
            yardFault(word, word.length(), 2);
        }
        tongueFault(padded("vowels", 260), 260, 2);
        dueTongue(padded("", 260), 0);
        dueYard(padded("", 260), 0);
    }

    private static void notAsTold() {
        CHECK.by(TERMS, "3 a WORD, NUMBER that is not as told");
        tongueFault("joined a;", 7, 3);
        tongueFault("joined abc;", 7, 3);
        tongueFault("joined aa a;", 10, 3);
        tongueFault("joined aa strong;", 10, 3);
        tongueFault("mute abcd;", 5, 3);
        tongueFault("mute a abcdefghijkl;", 7, 3);
        yardFault("left 0;", 5, 3);
        yardFault("rhymes 6;", 7, 3);
        yardFault("rhymes 0 9;", 9, 3);
        CHECK.by(TERMS, "joined: 1 to 12 of two letters; mute: 1 to 6 of one to three letters");
        tongueFault("joined;", 6, 2);
        dueTongue("joined aa;", 1);
        tongueFault("mute;", 4, 2);
        dueTongue("mute a ab abc;", 1);
        CHECK.by(TERMS, "'left' NUMBER (1 to 9)");
        tongueFault("left 1;", 0, 2);
        for (int n = 1; n <= 9; n++) {
            dueYard("left " + n + ";", 1);
        }
        yardFault("left;", 4, 2);
        CHECK.by(TERMS, "(1 to 4, each 0 to 5)");
        for (int s = 0; s <= 5; s++) {
            dueYard("rhymes " + s + ";", 1);
        }
        dueYard("rhymes 5 5 5 5;", 1);
        yardFault("rhymes;", 6, 2);
    }

    private static void oneTooMany() {
        CHECK.by(TERMS, "or one too many (at it)");
        dueTongue("joined aa ab ac ad ae af ag ah ai aj ak al;", 1);
        tongueFault("joined aa ab ac ad ae af ag ah ai aj ak al aa;", 43, 3);
        dueTongue("mute a b c d e f;", 1);
        tongueFault("mute a b c d e f a;", 17, 3);
        dueYard("rhymes 0 1 2 3;", 1);
        yardFault("rhymes 0 1 2 3 4;", 15, 3);
        yardFault("rhymes 0 1 2 3 9;", 15, 3);
    }

    private static void toldTwice() {
        CHECK.by(TERMS, "4 a RULE told twice (at its WORD)");
        for (String rule : TONGUE_RULES) {
            String word = rule.substring(0, rule.indexOf(' '));
            tongueFault(rule + rule, rule.length(), 4);
            tongueFault(rule + " " + word, rule.length() + 1, 4);
        }
        for (String rule : YARD_RULES) {
            String word = rule.substring(0, rule.indexOf(' '));
            yardFault(rule + rule, rule.length(), 4);
            yardFault(rule + "\n" + word, rule.length() + 1, 4);
        }
        tongueFault("vowels a;joined aa;mute a;strong last;vowels a;", 38, 4);
    }

    private static void howManyRules() {
        CHECK.by(4, "how many RULES");
        StringBuilder text = new StringBuilder();
        for (int i = 0; i <= TONGUE_RULES.length; i++) {
            dueTongue(text.toString(), i);
            text.append(i < TONGUE_RULES.length ? TONGUE_RULES[i] : "");
        }
        CHECK.by(5, "how many RULES");
        text = new StringBuilder();
        for (int i = 0; i <= YARD_RULES.length; i++) {
            dueYard(text.toString(), i);
            text.append(i < YARD_RULES.length ? YARD_RULES[i] : "");
        }
    }

    // ---- what is not told, and what stays

    private static void dueUsualTongue(RhymeRing x) {
        CHECK.due("vowels aeiouy", Check.beats(x, "aeiouy"), 6);
        CHECK.due("no other vowels", Check.beats(x, "bcdfghjklmnp"), 1);
        CHECK.due("no other vowels", Check.beats(x, "abqrstvwxz"), 1);
        CHECK.due("none joined", Check.beats(x, "bcaabc"), 2);
        CHECK.due("none mute", Check.beats(x, "ebae"), 3);
        CHECK.due("strong first", Check.strong(x, "banana"), 0);
    }

    /** PEOPLE, ANSWERS and SLOT 0 are others then. */
    private static void dueUsualYard(RhymeRing x) {
        Check.people(x, "a b c");
        Check.answers(x, "x");
        Check.rhyme(x, 0, "one");
        // Of "one" the second HAND is HIT, and then the second one behind it.
        CHECK.due("beats, heads, out, next, never, 1, 0", Check.play(x), 4);
        CHECK.due("HITS", x.told(5), 2);
        CHECK.due("the first HIT", x.hit(0), 1);
        CHECK.due("the second HIT", x.hit(1), 0);
        CHECK.due("aim free", x.sure(0), 1);
        CHECK.due("not for the one LEFT", x.sure(2), 0);
    }

    private static void tongueNotTold() {
        CHECK.by(TERMS, "What is not told: vowels aeiouy, none joined, none mute, strong first.");
        RhymeRing x = new RhymeRing();
        String all = "vowels bc;joined aa ae;mute e a ae;strong last;";
        for (int i = 0; i < 3; i++) {
            CHECK.due("all told", Check.tongue(x, all), 4);
            CHECK.due("vowels bc", Check.beats(x, "bacab"), 3);
            CHECK.due("all told again", Check.tongue(x, all), 4);
            Check.tongue(x, "");
            dueUsualTongue(x);
        }
        Check.tongue(x, all);
        Check.tongue(x, all);
        Check.tongue(x, "joined aa;");
        CHECK.due("joined alone", Check.beats(x, "eaae"), 3);
        CHECK.due("strong first with it", Check.strong(x, "eaae"), 0);
        Check.tongue(x, all);
        Check.tongue(x, all);
        Check.tongue(x, "mute e;");
        CHECK.due("mute alone", Check.beats(x, "eaae"), 3);
        Check.tongue(x, all);
        Check.tongue(x, all);
        Check.tongue(x, "strong last;");
        CHECK.due("strong alone", Check.strong(x, "eaae"), 3);
        Check.tongue(x, all);
        Check.tongue(x, all);
        Check.tongue(x, "vowels a;");
        CHECK.due("vowels alone", Check.beats(x, "eaae"), 2);
    }

    private static void yardNotTold() {
        CHECK.by(TERMS, "What is not told: beats, heads, out, next, never, 1, 0, free.");
        RhymeRing x = new RhymeRing();
        Check.rhyme(x, 1, "a");
        StringBuilder all = new StringBuilder();
        for (String rule : YARD_RULES) {
            all.append(rule);
        }
        for (int i = 0; i < 3; i++) {
            CHECK.due("all told", Check.yard(x, all.toString()), 8);
            CHECK.due("all told again", Check.yard(x, all.toString()), 8);
            Check.yard(x, "");
            dueUsualYard(x);
        }
        String[] usual = {"count beats;", "by heads;", "hit out;", "then next;", "turn never;",
            "left 1;", "rhymes 0;", "aim free;"};
        for (String rule : usual) {
            Check.yard(x, all.toString());
            Check.yard(x, all.toString());
            CHECK.due("as usual, " + rule, Check.yard(x, rule), 1);
            dueUsualYard(x);
        }
    }

    private static void tongueStays() {
        CHECK.by(4, "-1 - the place of a FAULT: it stays");
        RhymeRing x = new RhymeRing();
        Check.tongue(x, "vowels bo;joined oo;mute ob;strong last;");
        String[] wrong = {"vowels a;#", "vowels a;joined aa;mute a;strong first;vowels",
            "joined aa ab ac abc;", "mute a b cdef;", "strong first", ";", "vowels a"};
        for (String text : wrong) {
            CHECK.due("a FAULT in " + text, Check.tongue(x, text) < 0, true);
            CHECK.due("vowels bo", Check.beats(x, "boba"), 3);
            CHECK.due("no vowel a", Check.beats(x, "aab"), 1);
            CHECK.due("joined oo", Check.beats(x, "oom"), 1);
            CHECK.due("mute ob", Check.beats(x, "booob"), 2);
            CHECK.due("strong last", Check.strong(x, "bomo"), 2);
        }
    }

    private static void yardStays() {
        CHECK.by(5, "-1 - the place of a FAULT: it stays");
        RhymeRing x = new RhymeRing();
        Check.people(x, "a b c");
        Check.rhyme(x, 0, "one two three");
        Check.rhyme(x, 3, "one two");
        Check.yard(x, "count words;left 2;rhymes 3;by fists;aim left;");
        String[] wrong = {"left 1;#", "count beats;by heads;left 1;rhymes 0;aim free;count",
            "rhymes 0 1 2 6;", "left 0;", "rhymes 0", ";", "hit stays;then", "turn always;x"};
        for (String text : wrong) {
            CHECK.due("a FAULT in " + text, Check.yard(x, text) < 0, true);
            // The second HANDS of all are HIT, and then the first one of b.
            CHECK.due("two WORDS of SLOT 3, by fists, to left 2", Check.play(x), 5);
            CHECK.due("the first HIT", x.hit(0), 0);
            CHECK.due("the third HIT", x.hit(2), 2);
            CHECK.due("HITS", x.told(5), 4);
            CHECK.due("aim left", x.sure(0), 1);
        }
    }

    private static void fault() {
        RhymeRing x = new RhymeRing();
        CHECK.by(7, "0 without one and ahead of any");
        CHECK.due("ahead of any", x.fault(), 0);
        for (int i = 0; i < 3; i++) {
            Check.tongue(x, "joined a;");
            CHECK.due("of tongue()", x.fault(), 3);
            Check.tongue(x, "joined aa;");
            CHECK.due("tongue() without one", x.fault(), 0);
            Check.yard(x, "left 1;left 1;");
            CHECK.due("of yard()", x.fault(), 4);
            Check.yard(x, "left 1;");
            CHECK.due("yard() without one", x.fault(), 0);
            Check.rhyme(x, 0, "-");
            CHECK.due("of rhyme()", x.fault(), 3);
            Check.rhyme(x, 0, "a");
            CHECK.due("rhyme() without one", x.fault(), 0);
        }
        CHECK.by(7, "The kind of the FAULT of the latest tongue(), yard(), or rhyme() that did not "
            + "tell -300");
        Check.yard(x, "then;");
        Check.rhyme(x, 6, "-");
        Check.rhyme(x, -1, "a");
        CHECK.due("not of rhyme() that told -300", x.fault(), 2);
        Check.people(x, "#");
        Check.answers(x, "a");
        Check.beats(x, "#");
        CHECK.due("not of other calls", x.fault(), 2);
        Check.rhyme(x, 0, "#");
        CHECK.due("of the latest", x.fault(), 1);
        Check.rhyme(x, 6, "a");
        CHECK.due("still of the latest", x.fault(), 1);
    }

    // ---- PEOPLE, ANSWERS and WORDS

    private static String letters(int size) {
        return "abcdefghijklmnop".substring(0, size);
    }

    private static String manyWords(int count) {
        StringBuilder words = new StringBuilder();
        for (int i = 0; i < count; i++) {
            words.append(i > 0 ? " " : "").append((char) ('a' + i));
        }
        return words.toString();
    }

    private static final String[] NOT_ONE_BLANK_BETWEEN = {"", " ", " a", "a ", "a  b", "a\nb",
        "a\n", "\na", "a \nb", "a\tb", "a;b", "a/b", "A", "a B", "`", "{", "a{", "z`", "a 1", "a1",
        "a!", "a\u0000", "a\u00ff", "\u00ffa"};

    private static void people() {
        RhymeRing x = new RhymeRing();
        CHECK.by(8, "PEOPLE are the tape's WORDS, with one blank between: how many");
        for (int count = 1; count <= 12; count++) {
            CHECK.due(count + " PEOPLE", Check.people(x, manyWords(count)), count);
            CHECK.due(count + " told", x.told(1), count);
        }
        CHECK.due("z and twelve letters", Check.people(x, "z " + letters(12) + " a"), 3);
        CHECK.by(8, "NONE, and they stay: not 1 to 12 such");
        Check.people(x, "eeny meeny b");
        Check.rhyme(x, 0, "@");
        Check.yard(x, "hit stays;");
        for (String text : NOT_ONE_BLANK_BETWEEN) {
            dueNoPeople(x, text);
        }
        dueNoPeople(x, manyWords(13));
        dueNoPeople(x, manyWords(14));
        dueNoPeople(x, manyWords(12) + " ");
        dueNoPeople(x, letters(13));
        dueNoPeople(x, "a " + letters(13));
        dueNoPeople(x, letters(13) + " a");
    }

    private static void dueNoPeople(RhymeRing x, String text) {
        CHECK.due("people " + text, Check.people(x, text), -1);
        CHECK.due("three stay", x.told(1), 3);
        CHECK.due("eeny stays, of three BEATS", Check.play(x), 4);
    }

    private static void answers() {
        RhymeRing x = new RhymeRing();
        Check.people(x, "a b c d e");
        Check.rhyme(x, 0, "one ?");
        Check.yard(x, "hit stays;count words;");
        CHECK.by(9, "ANSWERS are the tape's WORDS: how many");
        for (int count = 1; count <= 5; count++) {
            CHECK.due(count + " ANSWERS", Check.answers(x, manyWords(count)), count);
            CHECK.due(count + " told", x.told(2), count);
            CHECK.due("the last of them", Check.play(x, count - 1), 2);
            CHECK.due("none behind it", Check.play(x, count), -1);
        }
        CHECK.due("z and twelve letters", Check.answers(x, "z " + letters(12)), 2);
        CHECK.due("twelve letters on", Check.play(x, 1), 1 << 2);
        CHECK.by(9, "NONE likewise, not 1 to 5");
        Check.answers(x, "xxx yy");
        for (String text : NOT_ONE_BLANK_BETWEEN) {
            dueNoAnswers(x, text);
        }
        dueNoAnswers(x, manyWords(6));
        dueNoAnswers(x, manyWords(12));
        dueNoAnswers(x, manyWords(5) + " ");
        dueNoAnswers(x, letters(13));
        dueNoAnswers(x, "a " + letters(13));
    }

    private static void dueNoAnswers(RhymeRing x, String text) {
        CHECK.due("answers " + text, Check.answers(x, text), -1);
        CHECK.due("two stay", x.told(2), 2);
        CHECK.due("xxx stays", Check.play(x, 0), 1 << 3);
        CHECK.due("yy stays", Check.play(x, 1), 1 << 2);
    }

    private static void beatsOfWords() {
        RhymeRing x = new RhymeRing();
        CHECK.by(TERMS, "from its first letter on each vowel is one");
        CHECK.due("the first letter", Check.beats(x, "abbb"), 1);
        CHECK.due("first and last letter", Check.beats(x, "abba"), 2);
        CHECK.due("twelve", Check.beats(x, "aeiouyaeiouy"), 12);
        CHECK.by(TERMS, "One at least.");
        CHECK.due("no vowel", Check.beats(x, "b"), 1);
        CHECK.due("twelve letters without any", Check.beats(x, "bcdfghjklmnp"), 1);
        Check.tongue(x, "mute b bb brr;");
        CHECK.due("an ending alone", Check.beats(x, "brr"), 1);
        CHECK.due("no vowel ahead of an ending", Check.beats(x, "sbb"), 1);
    }

    private static void joined() {
        RhymeRing x = new RhymeRing();
        CHECK.by(TERMS, "of two letters next to each other that are joined, both vowels, the "
            + "second one is none");
        Check.tongue(x, "joined aa ae ai ao au ay ea ee ei eo eu iy;");
        String[] pairs = {"aa", "ae", "ai", "ao", "au", "ay", "ea", "ee", "ei", "eo", "eu", "iy"};
        for (String pair : pairs) {
            CHECK.due(pair, Check.beats(x, pair), 1);
            CHECK.due(pair + " as the last letters", Check.beats(x, "abb" + pair), 2);
            CHECK.due(pair + " as the first letters", Check.beats(x, pair + "bba"), 2);
        }
        CHECK.due("another two", Check.beats(x, "yi"), 2);
        CHECK.due("not next to each other", Check.beats(x, "aba"), 2);
        Check.tongue(x, "joined ab ba bb;");
        CHECK.due("the second one is no vowel", Check.beats(x, "aba"), 2);
        CHECK.due("none is a vowel", Check.beats(x, "abba"), 2);
        Check.tongue(x, "vowels ab;joined ab ba;");
        CHECK.due("b is a vowel", Check.beats(x, "aab"), 2);
        CHECK.by(TERMS, "(nor is it first of another two)");
        CHECK.due("three", Check.beats(x, "aba"), 2);
        CHECK.due("four", Check.beats(x, "abab"), 2);
        CHECK.due("five", Check.beats(x, "ababa"), 3);
        CHECK.due("twelve", Check.beats(x, "abababababab"), 6);
    }

    private static void mute() {
        RhymeRing x = new RhymeRing();
        CHECK.by(TERMS, "If it ends with a mute one (the longest such) and has a BEAT ahead of "
            + "that ending, those of the ending are none");
        Check.tongue(x, "mute a be cab iou do y;");
        CHECK.due("the first mute one", Check.beats(x, "obba"), 1);
        CHECK.due("the last mute one", Check.beats(x, "obby"), 1);
        CHECK.due("two letters", Check.beats(x, "obbe"), 1);
        CHECK.due("three letters", Check.beats(x, "obcab"), 1);
        CHECK.due("three BEATS of an ending", Check.beats(x, "obiou"), 1);
        CHECK.due("not at the end", Check.beats(x, "obed"), 2);
        CHECK.due("the letter next to the ending", Check.beats(x, "obiiou"), 2);
        CHECK.due("the ending alone", Check.beats(x, "iou"), 3);
        CHECK.due("no BEAT ahead", Check.beats(x, "briou"), 3);
        CHECK.due("one letter alone", Check.beats(x, "a"), 1);
        CHECK.due("a WORD shorter than an ending", Check.beats(x, "ou"), 2);
        Check.tongue(x, "mute e ue;");
        CHECK.due("the longest, no BEAT ahead of it", Check.beats(x, "ue"), 2);
        CHECK.due("the longest, a BEAT ahead of it", Check.beats(x, "aue"), 1);
        Check.tongue(x, "mute ue e;");
        CHECK.due("the longest, told first", Check.beats(x, "ue"), 2);
        Check.tongue(x, "joined au;mute ue;");
        CHECK.due("the first of two is ahead, the second in the ending", Check.beats(x, "aue"), 1);
        Check.tongue(x, "vowels e;mute ab;");
        CHECK.due("no BEAT in the ending", Check.beats(x, "eeab"), 2);
    }

    private static void strongOfWords() {
        RhymeRing x = new RhymeRing();
        CHECK.by(TERMS, "STRONG is its first BEAT, its second one (the first, if it has one), or "
            + "its last one.");
        String[] words = {"brr", "out", "banana", "aeiouyaeiouy"};
        int[][] due = {{0, 0, 0, 0}, {0, 1, 1, 1}, {0, 1, 2, 11}};
        String[] rules = {"first", "second", "last"};
        for (int i = 0; i < rules.length; i++) {
            Check.tongue(x, "strong " + rules[i] + ";");
            for (int k = 0; k < words.length; k++) {
                CHECK.due(rules[i] + " of " + words[k], Check.strong(x, words[k]), due[i][k]);
            }
        }
    }

    private static void noWord() {
        String[] wrong = {"", " ", " a", "a ", "a b", "\na", "a\n", "A", "`", "{", "a`", "a{", "1",
            "a1", "1a", "a!", "-", "@", ";", "a;", "\u0000", "a\u00e9", letters(13),
            letters(12) + " "};
        for (String text : wrong) {
            RhymeRing x = new RhymeRing();
            CHECK.by(12, "NONE: it is not one alone");
            CHECK.due("beats of " + text, Check.beats(x, text), -1);
            CHECK.by(13, "NONE likewise");
            CHECK.due("strong of " + text, Check.strong(x, text), -1);
        }
        RhymeRing x = new RhymeRing();
        CHECK.by(12, "BEATS of the tape's WORD");
        CHECK.due("one letter", Check.beats(x, "z"), 1);
        CHECK.due("twelve letters", Check.beats(x, letters(12)), 3);
        CHECK.by(13, "Which BEAT of the tape's WORD is STRONG (0 the first)");
        CHECK.due("one letter", Check.strong(x, "a"), 0);
        CHECK.due("twelve letters", Check.strong(x, letters(12)), 0);
    }

    // ---- OUT, and what is told

    private static void octet() {
        RhymeRing x = new RhymeRing();
        Check.rhyme(x, 0, "banana/b/a/?");
        CHECK.by(16, "NoSuchElementException: there is none such");
        int[] sizes = {3, 1, 1, 0};
        for (int line = 0; line < sizes.length; line++) {
            x.feet(0, line);
            int[] wrong = {-1, sizes[line], sizes[line] + 1, 239, 240, Integer.MIN_VALUE,
                Integer.MAX_VALUE};
            for (int k : wrong) {
                CHECK.due("octet " + k + " of LINE " + line, Check.octet(x, k), Check.THROWN);
            }
        }
        CHECK.by(16, "Byte k of OUT.");
        x.feet(0, 0);
        CHECK.due("the first", Check.octet(x, 0), 1);
        CHECK.due("the last", Check.octet(x, 2), 0);
        Check.rhyme(x, 1, "9x aaaaaaaaaaaa! aaaaaaaaaaaa bb!");
        CHECK.due("all BEATS of a LINE", x.feet(1, 0), 26);
        CHECK.due("the last of them", Check.octet(x, 25), 1);
        CHECK.due("none behind it", Check.octet(x, 26), Check.THROWN);
        CHECK.by(TERMS, "A call that throws changes nothing.");
        CHECK.due("OUT stays", x.told(4), 26);
        CHECK.dueOut("all of it", x, "11111111111110000000000011");
    }

    private static void told() {
        RhymeRing x = new RhymeRing();
        CHECK.by(31, "0 RHYMES, 1 PEOPLE, 2 ANSWERS, 3 bytes of the tape, 4 of OUT, 5 HITS of the "
            + "latest play().");
        for (int s = 0; s < 6; s++) {
            Check.rhyme(x, s, "a/banana");
            CHECK.due("RHYMES", x.told(0), s + 1);
        }
        Check.people(x, "a b c d");
        Check.answers(x, "a b c");
        x.feet(5, 1);
        Check.play(x);
        Check.put(x, padded("", 260));
        int[] want = {6, 4, 3, 260, 3, 3};
        for (int what = 0; what < want.length; what++) {
            CHECK.due("told " + what, x.told(what), want[what]);
        }
        for (int s = 5; s >= 0; s--) {
            x.forget(s);
            CHECK.due("RHYMES", x.told(0), s);
        }
        CHECK.by(31, "NONE for another what");
        int[] wrong = {-1, 6, 7, 256, Integer.MIN_VALUE, Integer.MAX_VALUE};
        for (int what : wrong) {
            CHECK.due("told " + what, x.told(what), -1);
        }
    }
}
