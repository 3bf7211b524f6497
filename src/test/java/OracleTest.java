import java.util.ArrayList;
import java.util.Collections;
import java.util.List;
import java.util.Random;

/** Runs of calls drawn by a fixed seed: every answer of the class is that of the Oracle. */
public final class OracleTest {
    private static final int RUNS = 700;
    private static final int CALLS = 240;
    private static final String[] PARTS = {"out", "eeny", "meeny", "moe", "a", "tea", "queue", "b",
        "apple", "you", "one", "strengths", "eye", "table", "x", "abcdefghijkl"};

    private final Check check = new Check("OracleTest");
    private final Random random;
    private final int run;
    private RhymeRing x = new RhymeRing();
    private Oracle o = new Oracle();

    private OracleTest(int run) {
        this.run = run;
        random = new Random(7919L * run + 1);
    }

    public static void main(String[] args) {
        int runs = args.length > 0 ? Integer.parseInt(args[0]) : RUNS;
        int wrongRuns = 0;
        for (int run = 0; run < runs; run++) {
            OracleTest test = new OracleTest(run);
            for (int call = 0; call < CALLS && !test.check.isWrong(); call++) {
                test.step();
            }
            wrongRuns += test.check.isWrong() ? 1 : 0;
        }
        System.out.println("OracleTest: " + runs + " runs, " + wrongRuns + " with a wrong answer");
        if (wrongRuns > 0) {
            System.exit(1);
        }
    }

    private int below(int n) {
        return random.nextInt(n);
    }

    private boolean chance(int percent) {
        return below(100) < percent;
    }

    private String pick(String... from) {
        return from[below(from.length)];
    }

    private void due(String call, long got, long want) {
        check.due("run " + run + ": " + call, got, want);
    }

    // ---- what comes on the tape

    private void put(String text) {
        String cut = text.length() > 260 ? text.substring(0, 260) : text;
        if (chance(2)) {
            Check.put(x, cut);
            Check.put(x, cut);
        } else {
            Check.put(x, cut);
        }
        o.tape = cut;
        due("tape of " + cut, x.told(3), o.told(3));
    }

    private String bytes(int size, int bound) {
        StringBuilder text = new StringBuilder();
        for (int i = 0; i < size; i++) {
            text.append((char) (chance(2) ? below(256) : below(bound)));
        }
        return text.toString();
    }

    private String spoiled(String text, String signs, int percent) {
        StringBuilder spoiled = new StringBuilder(text);
        while (chance(percent)) {
            char sign = chance(5) ? (char) below(256) : signs.charAt(below(signs.length()));
            int at = below(spoiled.length() + 1);
            int kind = below(3);
            if (kind == 0 || at == spoiled.length()) {
                spoiled.insert(at, sign);
            } else if (kind == 1) {
                spoiled.deleteCharAt(at);
            } else {
                spoiled.setCharAt(at, sign);
            }
        }
        return spoiled.toString();
    }

    /** All of them in any order, now and then one of them twice. */
    private List<String> shuffled(String... all) {
        List<String> rules = new ArrayList<>(List.of(all));
        Collections.shuffle(rules, random);
        if (chance(8)) {
            rules.set(below(rules.size()), rules.get(below(rules.size())));
        }
        return rules;
    }

    private String letters(int size, String from) {
        StringBuilder word = new StringBuilder();
        for (int i = 0; i < size; i++) {
            word.append(from.charAt(below(from.length())));
        }
        return word.toString();
    }

    private String word() {
        return chance(60) ? PARTS[below(PARTS.length)]
            : letters(1 + below(chance(3) ? 14 : 6), "aeiouytbn");
    }

    private String words(int size) {
        StringBuilder words = new StringBuilder(word());
        for (int i = 1; i < size; i++) {
            words.append(' ').append(word());
        }
        return words.toString();
    }

    private String blank() {
        return pick(" ", " ", " ", "\n", "  ", " \n ");
    }

    private String tongueText() {
        StringBuilder text = new StringBuilder();
        List<String> rules = shuffled("vowels", "joined", "mute", "strong");
        for (String rule : rules.subList(0, below(5))) {
            text.append(chance(30) ? blank() : "").append(rule);
            int size = chance(5) ? 14 : 1 + below(4);
            if (rule.equals("strong")) {
                text.append(blank()).append(pick("first", "second", "last"));
            } else if (rule.equals("vowels")) {
                text.append(blank()).append(letters(1 + below(6), "aeiouytbn"));
            }
            for (int k = 0; k < size && (rule.equals("joined") || rule.equals("mute")); k++) {
                text.append(blank()).append(rule.equals("mute") ? letters(1 + below(3), "aeioutn")
                    : letters(2, "aeiouy"));
            }
            text.append(chance(30) ? blank() : "").append(';');
        }
        return spoiled(text.toString(), "abz19; \n;", 12);
    }

    private String yardText() {
        StringBuilder text = new StringBuilder();
        List<String> rules =
            shuffled("count", "by", "hit", "then", "turn", "left", "rhymes", "aim");
        for (String rule : rules.subList(0, below(9))) {
            text.append(rule).append(blank());
            switch (rule) {
                case "count":
                    text.append(pick("words", "beats"));
                    break;
                case "by":
                    text.append(pick("heads", "fists"));
                    break;
                case "hit":
                    text.append(pick("out", "out", "out", "stays"));
                    break;
                case "then":
                    text.append(pick("next", "same", "caller"));
                    break;
                case "turn":
                    text.append(pick("never", "always"));
                    break;
                case "left":
                    text.append(chance(80) ? 1 + below(3) : below(10));
                    break;
                case "rhymes":
                    text.append(below(3));
                    for (int k = chance(3) ? 4 : below(4); k > 0; k--) {
                        text.append(chance(50) ? " " : "\n").append(below(chance(5) ? 7 : 4));
                    }
                    break;
                default:
                    text.append(pick("left", "free"));
                    break;
            }
            text.append(chance(30) ? blank() : "").append(';');
        }
        return spoiled(text.toString(), "abz190; \n", 10);
    }

    private String item() {
        int kind = below(10);
        if (kind < 5) {
            return word();
        }
        return kind < 6 ? word() + "!" : kind < 7 ? "-" : "@";
    }

    private String rhymeText() {
        StringBuilder text = new StringBuilder();
        boolean timed = false;
        int lines = chance(4) ? 15 + below(3) : 1 + below(4);
        for (int i = 0; i < lines; i++) {
            text.append(i > 0 ? "/" : "");
            timed = chance(15);
            text.append(timed ? 2 + below(8) + "x " : "").append(item());
            for (int k = below(chance(3) ? 40 : 4); k > 0; k--) {
                text.append(' ').append(item());
            }
        }
        boolean ask = chance(60);
        text.append(ask ? (chance(20) || timed ? "/?" : " ?") : "");
        return spoiled(text.toString(), "abx 12!-@?/", 8);
    }

    private String person() {
        return letters(1 + below(4), "aeioubn");
    }

    // ---- the calls

    private void step() {
        int kind = below(100);
        if (kind < 30) {
            settle(kind);
        } else if (kind < 50) {
            look();
        } else if (kind < 80) {
            playOn();
        } else {
            compare();
        }
    }

    private void settle(int kind) {
        if (kind < 3) {
            put(tongueText());
            due("tongue", x.tongue(), o.tongue());
        } else if (kind < 9) {
            put(yardText());
            due("yard", x.yard(), o.yard());
        } else if (kind < 20) {
            int s = chance(50) ? below(3) : below(8) - 1;
            put(rhymeText());
            due("rhyme " + s, x.rhyme(s), o.rhyme(s));
        } else if (kind < 24) {
            putPeople();
            due("people", x.people(), o.people());
        } else if (kind < 27) {
            put(spoiled(words(1 + below(chance(10) ? 7 : 3)), " a-", 8));
            due("answers", x.answers(), o.answers());
        } else if (kind < 28) {
            int s = below(8) - 1;
            due("forget " + s, x.forget(s) ? 1 : 0, o.forget(s) ? 1 : 0);
        } else {
            int s = below(8) - 1;
            int day = chance(5) ? below(3000) - 1000 : below(5);
            due("born", x.born(s, day) ? 1 : 0, o.born(s, day) ? 1 : 0);
        }
        due("fault", x.fault(), o.fault);
        due("what stays on the tape", x.told(3), o.told(3));
    }

    private void putPeople() {
        StringBuilder names = new StringBuilder(person());
        for (int i = chance(15) ? below(13) : below(5); i > 0; i--) {
            names.append(' ').append(person());
        }
        put(spoiled(names.toString(), " a-\n", 6));
    }

    private void look() {
        int s = below(8) - 1;
        int t = below(8) - 1;
        put(chance(80) ? word() : spoiled(word(), " a1", 60));
        due("beats of " + o.tape, x.beats(), o.beats());
        put(chance(80) ? word() : spoiled(word(), " a1", 60));
        due("strong of " + o.tape, x.strong(), o.strong());
        boolean byBeats = chance(50);
        due("counted " + s, x.counted(s, byBeats), o.counted(s, byBeats));
        int line = below(6) - 1;
        due("feet " + s, x.feet(s, line), o.feet(s, line));
        for (int i = 0; i < 4; i++) {
            int k = below(16) - 1;
            due("octet " + k, Check.octet(x, k), o.octet(k));
        }
        due("alike", x.alike(s, t), o.alike(s, t));
        int what = below(9) - 1;
        due("told " + what, x.told(what), o.told(what));
        feedOn();
    }

    private void feedOn() {
        int[] n = {random.nextInt(), random.nextInt(), random.nextInt(), random.nextInt(),
            random.nextInt()};
        due("feed", x.feed(n[0], n[1], n[2], n[3], n[4]), o.feed(n));
        int size = below(300) - 10;
        due("end " + size, x.end(size) ? 1 : 0, o.end(size) ? 1 : 0);
    }

    private void playOn() {
        String told = bytes(below(8), o.answers.size());
        put(told);
        due("play", x.play(), o.play());
        for (int i = -1; i < 4; i++) {
            due("hit " + i, x.hit(i), o.hit(i));
        }
        long n = chance(50) ? below(50) : Math.abs(random.nextLong()) % 1000000000002L;
        due("last " + n, x.last(n), o.last(n));
        if (isLight()) {
            playGame();
        }
        put(bytes(chance(3) ? 20 + below(10) : below(5), o.people.size()));
        String record = o.tape;
        due("holds", x.holds(), o.holds());
        put(record);
        due("explain", x.explain(), o.explain());
    }

    /** The Oracle keeps nothing, so that great GAMES are for few runs. */
    private boolean isLight() {
        int hands = o.people.size() * (o.by.equals("fists") ? 2 : 1);
        return hands > 8 || Math.pow(o.answers.size(), hands - 1) <= (chance(3) ? 3000 : 100);
    }

    private void playGame() {
        int see = chance(5) ? random.nextInt() : below(1 << o.people.size());
        due("game " + see, x.game(see), o.game(see));
        due("says " + see, x.says(see), o.says(see));
        int p = below(o.people.size() + 2) - 1;
        due("sure " + p, x.sure(p), o.sure(p));
        int what = below(chance(10) ? 4 : 2) - (chance(5) ? 1 : 0);
        due("share " + p + " " + what, Check.share(x, p, what), o.share(p, what));
        if (chance(20)) {
            due("mend", x.mend(), o.mend());
        }
    }

    private void compare() {
        int s = below(8) - 1;
        int t = below(8) - 1;
        due("changes", x.changes(s, t), o.changes(s, t));
        due("parent", x.parent(s), o.parent(s));
        if (chance(20)) {
            int what = below(6) - 1;
            due("mixed " + what, x.mixed(s, what), o.mixed(s, what));
        }
    }
}
