import java.math.BigInteger;
import java.util.ArrayList;
import java.util.List;
import java.util.regex.Matcher;
import java.util.regex.Pattern;

/**
 * The document told a second time, as slowly and plainly as can be: hit by hit, ask by ask, without
 * anything kept between two states. The class is held against it in OracleTest.
 */
final class Oracle {
    static final int NONE = -1;

    private static final String ITEM = "(?:[a-z]+!?|-|@)";
    private static final String LINE = "(?:[2-9]x )?" + ITEM + "(?: " + ITEM + ")*";
    private static final Pattern RHYME =
        Pattern.compile("(?:" + LINE + "/)*(?:" + LINE + "|(?:" + ITEM + " )*\\?)");

    String tape = "";
    String vowels;
    List<String> joined;
    List<String> mute;
    String strong;
    String count;
    String by;
    String hit;
    String then;
    String turn;
    String aim;
    int left;
    List<Integer> rhymes;
    String[] slots = new String[6];
    int[] days = new int[6];
    List<String> people = List.of("a");
    List<String> answers = List.of("a");
    int fault;
    List<Integer> out = new ArrayList<>();
    List<Integer> hits = new ArrayList<>();

    Oracle() {
        usualTongue();
        usualYard();
    }

    private void usualTongue() {
        vowels = "aeiouy";
        joined = new ArrayList<>();
        mute = new ArrayList<>();
        strong = "first";
    }

    private void usualYard() {
        count = "beats";
        by = "heads";
        hit = "out";
        then = "next";
        turn = "never";
        aim = "free";
        left = 1;
        rhymes = List.of(0);
    }

    String take() {
        String had = tape;
        tape = "";
        return had;
    }

    // ---- texts of THE TONGUE and THE YARD: a whole list of TOKENS first, then the grammar

    private static final class Token {
        final String text;
        final int at;

        Token(String text, int at) {
            this.text = text;
            this.at = at;
        }

        boolean isWord() {
            return text.matches("[a-z]{1,12}");
        }

        boolean isNumber() {
            return text.matches("[0-9]");
        }

        boolean isToken() {
            return isWord() || isNumber() || text.equals(";");
        }
    }

    private static final class Fault extends Exception {
        private static final long serialVersionUID = 1;
        final int kind;
        final int place;

        Fault(int kind, int place) {
            this.kind = kind;
            this.place = place;
        }
    }

    private static List<Token> tokens(String text) {
        List<Token> tokens = new ArrayList<>();
        Matcher m = Pattern.compile("[a-z0-9]+|[^ \\n]", Pattern.DOTALL).matcher(text);
        while (m.find()) {
            tokens.add(new Token(m.group(), m.start()));
        }
        tokens.add(new Token("", text.length()));
        return tokens;
    }

    private static Fault cannotCome(Token t) {
        return new Fault(t.text.isEmpty() || t.isToken() ? 2 : 1, t.at);
    }

    int tongue() {
        Oracle old = new Oracle();
        old.vowels = vowels;
        old.joined = joined;
        old.mute = mute;
        old.strong = strong;
        try {
            usualTongue();
            int rules = readTongue(tokens(take()));
            fault = 0;
            return rules;
        } catch (Fault f) {
            vowels = old.vowels;
            joined = old.joined;
            mute = old.mute;
            strong = old.strong;
            fault = f.kind;
            return -1 - f.place;
        }
    }

    private int readTongue(List<Token> tokens) throws Fault {
        List<String> seen = new ArrayList<>();
        int i = 0;
        while (!tokens.get(i).text.isEmpty()) {
            Token rule = tokens.get(i);
            if (!List.of("vowels", "joined", "mute", "strong").contains(rule.text)) {
                throw cannotCome(rule);
            }
            if (seen.contains(rule.text)) {
                throw new Fault(4, rule.at);
            }
            seen.add(rule.text);
            i++;
            List<Token> args = new ArrayList<>();
            boolean isList = rule.text.equals("joined") || rule.text.equals("mute");
            while (tokens.get(i).isWord() && (isList || args.isEmpty())) {
                Token arg = tokens.get(i);
                args.add(arg);
                String size = rule.text.equals("joined") ? "[a-z]{2}" : "[a-z]{1,3}";
                if (isList && (!arg.text.matches(size)
                        || args.size() > (rule.text.equals("joined") ? 12 : 6))) {
                    throw new Fault(3, arg.at);
                }
                if (rule.text.equals("strong") && !arg.text.matches("first|second|last")) {
                    throw cannotCome(arg);
                }
                i++;
            }
            if (args.isEmpty() || !tokens.get(i).text.equals(";")) {
                throw cannotCome(tokens.get(i));
            }
            i++;
            keepTongue(rule.text, args);
        }
        return seen.size();
    }

    private void keepTongue(String rule, List<Token> args) {
        List<String> words = new ArrayList<>();
        for (Token arg : args) {
            words.add(arg.text);
        }
        switch (rule) {
            case "vowels":
                vowels = words.get(0);
                break;
            case "joined":
                joined = words;
                break;
            case "mute":
                mute = words;
                break;
            default:
                strong = words.get(0);
                break;
        }
    }

    int yard() {
        Oracle old = new Oracle();
        old.copyYard(this);
        try {
            usualYard();
            int rules = readYard(tokens(take()));
            fault = 0;
            return rules;
        } catch (Fault f) {
            copyYard(old);
            fault = f.kind;
            return -1 - f.place;
        }
    }

    private void copyYard(Oracle other) {
        count = other.count;
        by = other.by;
        hit = other.hit;
        then = other.then;
        turn = other.turn;
        aim = other.aim;
        left = other.left;
        rhymes = other.rhymes;
    }

    private static String choices(String rule) {
        switch (rule) {
            case "count":
                return "words|beats";
            case "by":
                return "heads|fists";
            case "hit":
                return "out|stays";
            case "then":
                return "next|same|caller";
            case "turn":
                return "never|always";
            case "aim":
                return "left|free";
            case "left":
                return "[1-9]";
            case "rhymes":
                return "[0-5]";
            default:
                return null;
        }
    }

    private int readYard(List<Token> tokens) throws Fault {
        List<String> seen = new ArrayList<>();
        int i = 0;
        while (!tokens.get(i).text.isEmpty()) {
            Token rule = tokens.get(i);
            if (choices(rule.text) == null) {
                throw cannotCome(rule);
            }
            if (seen.contains(rule.text)) {
                throw new Fault(4, rule.at);
            }
            seen.add(rule.text);
            i++;
            boolean wantsNumber = rule.text.equals("left") || rule.text.equals("rhymes");
            int most = rule.text.equals("rhymes") ? 4 : 1;
            List<String> args = new ArrayList<>();
            while (wantsNumber ? tokens.get(i).isNumber() : tokens.get(i).isWord()) {
                Token arg = tokens.get(i);
                if (most == 1 && args.size() == 1) {
                    break;
                }
                if (!arg.text.matches(choices(rule.text)) || args.size() == most) {
                    throw wantsNumber ? new Fault(3, arg.at) : cannotCome(arg);
                }
                args.add(arg.text);
                i++;
            }
            if (args.isEmpty() || !tokens.get(i).text.equals(";")) {
                throw cannotCome(tokens.get(i));
            }
            i++;
            keepYard(rule.text, args);
        }
        return seen.size();
    }

    private void keepYard(String rule, List<String> args) {
        String first = args.get(0);
        switch (rule) {
            case "count":
                count = first;
                break;
            case "by":
                by = first;
                break;
            case "hit":
                hit = first;
                break;
            case "then":
                then = first;
                break;
            case "turn":
                turn = first;
                break;
            case "aim":
                aim = first;
                break;
            case "left":
                left = Integer.parseInt(first);
                break;
            default:
                rhymes = new ArrayList<>();
                for (String arg : args) {
                    rhymes.add(Integer.parseInt(arg));
                }
                break;
        }
    }

    // ---- RHYMES: a prefix can go on, if the pattern fails at nothing but its end

    int rhyme(int s) {
        String text = take();
        if (s < 0 || s > 5) {
            return -300;
        }
        for (int i = 0; i <= text.length(); i++) {
            int kind = faultAt(text, i);
            if (kind != 0) {
                fault = kind;
                return -1 - i;
            }
        }
        if (!text.matches("(?s).*[a-z@].*") || !text.replaceAll("[2-9]x", "").matches(".*[a-z@].*")) {
            fault = 3;
            return -1;
        }
        fault = 0;
        slots[s] = text;
        days[s] = 0;
        return text.split("/", -1).length;
    }

    private static int faultAt(String text, int i) {
        if (i == text.length()) {
            return RHYME.matcher(text).matches() ? 0 : 1;
        }
        String prefix = text.substring(0, i + 1);
        Matcher m = RHYME.matcher(prefix);
        if (i >= 240 || !m.matches() && !m.hitEnd()) {
            return 1;
        }
        if (prefix.matches("(?s).*[a-z]{13}") || prefix.split("/", -1).length > 16) {
            return 2;
        }
        return 0;
    }

    private boolean has(int s) {
        return s >= 0 && s < 6 && slots[s] != null;
    }

    private static int times(String line) {
        return Character.isDigit(line.charAt(0)) ? line.charAt(0) - '0' : 1;
    }

    private static List<String> said(String line) {
        List<String> items = new ArrayList<>(List.of(line.split(" ")));
        if (Character.isDigit(line.charAt(0))) {
            items.remove(0);
        }
        return items;
    }

    /** All ITEMS of a RHYME, each LINE so often as it is said. */
    private static List<String> allSaid(String rhyme) {
        List<String> items = new ArrayList<>();
        for (String line : rhyme.split("/")) {
            for (int i = 0; i < times(line); i++) {
                items.addAll(said(line));
            }
        }
        return items;
    }

    // ---- PEOPLE, ANSWERS

    private static List<String> words(String text, int most) {
        if (!text.matches("[a-z]{1,12}( [a-z]{1,12})*") || text.split(" ").length > most) {
            return null;
        }
        return List.of(text.split(" "));
    }

    int people() {
        List<String> words = words(take(), 12);
        people = words == null ? people : words;
        return words == null ? NONE : words.size();
    }

    int answers() {
        List<String> words = words(take(), 5);
        answers = words == null ? answers : words;
        return words == null ? NONE : words.size();
    }

    boolean forget(int s) {
        boolean had = has(s);
        if (had) {
            slots[s] = null;
        }
        return had;
    }

    boolean born(int s, int day) {
        if (!has(s) || day < 0 || day > 999) {
            return false;
        }
        days[s] = day;
        return true;
    }

    // ---- BEATS

    int beatsOf(String word) {
        List<Integer> beats = new ArrayList<>();
        int i = 0;
        while (i < word.length()) {
            if (vowels.indexOf(word.charAt(i)) >= 0) {
                beats.add(i);
                boolean pair = i + 1 < word.length() && vowels.indexOf(word.charAt(i + 1)) >= 0
                    && joined.contains(word.substring(i, i + 2));
                i += pair ? 2 : 1;
            } else {
                i++;
            }
        }
        String ending = "";
        for (String m : mute) {
            if (word.endsWith(m) && m.length() > ending.length()) {
                ending = m;
            }
        }
        int stem = word.length() - ending.length();
        if (!beats.isEmpty() && beats.get(0) < stem) {
            beats.removeIf(b -> b >= stem);
        }
        return Math.max(1, beats.size());
    }

    private int strongOf(String word) {
        int beats = beatsOf(word);
        if (strong.equals("last")) {
            return beats - 1;
        }
        return strong.equals("second") && beats > 1 ? 1 : 0;
    }

    int beats() {
        String word = take();
        return word.matches("[a-z]{1,12}") ? beatsOf(word) : NONE;
    }

    int strong() {
        String word = take();
        return word.matches("[a-z]{1,12}") ? strongOf(word) : NONE;
    }

    /** An ITEM that is neither a name nor an ask. */
    private int countOf(String item, boolean byBeats) {
        if (item.endsWith("!")) {
            return item.length() - 1;
        }
        if (item.equals("-")) {
            return byBeats ? 1 : 0;
        }
        return byBeats ? beatsOf(item) : 1;
    }

    int counted(int s, boolean byBeats) {
        if (!has(s)) {
            return NONE;
        }
        int sum = 0;
        for (String item : allSaid(slots[s])) {
            sum += item.equals("@") || item.equals("?") ? 0 : countOf(item, byBeats);
        }
        return sum;
    }

    private List<Integer> feetOf(String line) {
        List<Integer> feet = new ArrayList<>();
        for (String item : said(line)) {
            if (item.equals("@")) {
                feet.add(1);
            } else if (item.equals("-")) {
                feet.add(0);
            } else if (item.endsWith("!")) {
                for (int i = 1; i < item.length(); i++) {
                    feet.add(1);
                }
            } else if (!item.equals("?")) {
                for (int i = 0; i < beatsOf(item); i++) {
                    feet.add(i == strongOf(item) ? 1 : 0);
                }
            }
        }
        return feet;
    }

    int feet(int s, int line) {
        if (!has(s) || line < 0 || line >= slots[s].split("/").length) {
            return NONE;
        }
        out = feetOf(slots[s].split("/")[line]);
        return out.size();
    }

    long octet(int k) {
        return k < 0 || k >= out.size() ? Check.THROWN : out.get(k);
    }

    int alike(int s, int t) {
        if (!has(s) || !has(t)) {
            return NONE;
        }
        String[] one = slots[s].split("/");
        String[] other = slots[t].split("/");
        int same = 0;
        while (same < one.length && same < other.length
                && feetOf(one[same]).equals(feetOf(other[same]))
                && times(one[same]) == times(other[same])) {
            same++;
        }
        return same;
    }

    // ---- plays

    /** A PLAY at the beginning of a COUNTING: HANDS are numbers p * 2 (left), p * 2 + 1. */
    private static final class State {
        final List<Integer> in;
        final int begin;
        final int hits;

        State(List<Integer> in, int begin, int hits) {
            this.in = in;
            this.begin = begin;
            this.hits = hits;
        }

        int people() {
            int bits = 0;
            for (int hand : in) {
                bits |= 1 << hand / 2;
            }
            return bits;
        }
    }

    private State atFirst() {
        List<Integer> in = new ArrayList<>();
        for (int p = 0; p < people.size(); p++) {
            in.add(2 * p);
            if (by.equals("fists")) {
                in.add(2 * p + 1);
            }
        }
        return new State(in, 0, 0);
    }

    private boolean over(State state) {
        return !hit.equals("stays") && Integer.bitCount(state.people()) <= left;
    }

    private boolean onward(int hits) {
        return !turn.equals("always") || hits % 2 == 0;
    }

    /** The next of all HANDS 0 .. 23 that is in. */
    private static int after(List<Integer> in, int hand, boolean onward) {
        int at = hand;
        do {
            at = (at + (onward ? 1 : 23)) % 24;
        } while (!in.contains(at));
        return at;
    }

    private String rhymeOf(State state) {
        return slots[rhymes.get(state.hits % rhymes.size())];
    }

    private boolean asks(State state) {
        return rhymeOf(state).endsWith("?");
    }

    private int rests;
    private int restSlot = NONE;

    /** The HAND to which the latest one comes ahead of an ask's answer. */
    private int latest(State state) {
        boolean byBeats = count.equals("beats");
        int next = state.begin;
        int latest = NONE;
        List<String> items = allSaid(rhymeOf(state));
        if (rhymes.get(state.hits % rhymes.size()) == restSlot) {
            int end = asks(state) ? items.size() - 1 : items.size();
            for (int i = 0; i < rests; i++) {
                items.add(end, "-");
            }
        }
        for (String item : items) {
            int size;
            if (item.equals("?")) {
                size = 0;
            } else if (item.equals("@")) {
                size = byBeats ? beatsOf(people.get(next / 2)) : 1;
            } else {
                size = countOf(item, byBeats);
            }
            for (int i = 0; i < size; i++) {
                latest = next;
                next = after(state.in, next, onward(state.hits));
            }
        }
        return latest;
    }

    private int asker(State state) {
        return latest(state) / 2;
    }

    private int hand(State state, int answer) {
        int at = latest(state);
        if (asks(state)) {
            for (int i = 0; i < answers.get(answer).length(); i++) {
                at = after(state.in, at, onward(state.hits));
            }
        }
        return at;
    }

    private State next(State state, int hand) {
        List<Integer> in = new ArrayList<>(state.in);
        in.remove((Integer) hand);
        boolean onward = onward(state.hits + 1);
        int begin = after(in, hand, onward);
        if (then.equals("same")) {
            begin = in.contains(state.begin) ? state.begin : after(in, state.begin, onward);
        } else if (then.equals("caller") && (in.contains(0) || in.contains(1))) {
            begin = in.contains(0) ? 0 : 1;
        }
        return new State(in, begin, state.hits + 1);
    }

    private boolean rhymesThere() {
        for (int s : rhymes) {
            if (!has(s)) {
                return false;
            }
        }
        return true;
    }

    private boolean below(String bytes, int bound) {
        return bytes.chars().allMatch(c -> c < bound);
    }

    int play() {
        String told = take();
        if (!below(told, answers.size()) || !rhymesThere()) {
            return NONE;
        }
        hits = new ArrayList<>();
        State state = atFirst();
        int asked = 0;
        while (!over(state)) {
            int answer = 0;
            if (asks(state)) {
                answer = asked < told.length() ? told.charAt(asked) : 0;
                asked++;
            }
            int hand = hand(state, answer);
            hits.add(hand / 2);
            if (hit.equals("stays")) {
                return 1 << hand / 2;
            }
            state = next(state, hand);
        }
        return state.people();
    }

    int hit(int i) {
        return i >= 0 && i < hits.size() ? hits.get(i) : NONE;
    }

    long last(long n) {
        int s = rhymes.get(0);
        if (n < 1 || n > 1000000000000L || !has(s) || slots[s].matches(".*[@?].*")) {
            return NONE;
        }
        return josephus(n, counted(s, count.equals("beats")));
    }

    /** By the numbers that those passed over get anew, told back from the last one. */
    static long josephus(long n, long step) {
        if (step == 1) {
            return n - 1;
        }
        BigInteger k = BigInteger.valueOf(step);
        BigInteger less = k.subtract(BigInteger.ONE);
        BigInteger d = BigInteger.ONE;
        BigInteger bound = less.multiply(BigInteger.valueOf(n));
        while (d.compareTo(bound) <= 0) {
            d = d.multiply(k).add(less).subtract(BigInteger.ONE).divide(less);
        }
        return k.multiply(BigInteger.valueOf(n)).subtract(d).longValueExact();
    }

    // ---- games

    private boolean isGame() {
        return atFirst().in.size() <= 8 && rhymesThere();
    }

    private boolean meets(int p, int leftBits) {
        return (leftBits >> p & 1) == (aim.equals("left") ? 1 : 0);
    }

    private int answerOf(State state, int see) {
        int asker = asker(state);
        for (int a = 0; a < answers.size() && (see >> asker & 1) != 0; a++) {
            if (meets(asker, outcomeAfter(state, a, see))) {
                return a;
            }
        }
        return 0;
    }

    private int outcome(State state, int see) {
        if (over(state)) {
            return state.people();
        }
        return outcomeAfter(state, asks(state) ? answerOf(state, see) : 0, see);
    }

    private int outcomeAfter(State state, int answer, int see) {
        int hand = hand(state, answer);
        return hit.equals("stays") ? 1 << hand / 2 : outcome(next(state, hand), see);
    }

    int game(int see) {
        return !isGame() || see < 0 || see >= 1 << people.size() ? NONE : outcome(atFirst(), see);
    }

    int says(int see) {
        if (game(see) == NONE) {
            return NONE;
        }
        State state = atFirst();
        while (!over(state)) {
            if (asks(state)) {
                return answerOf(state, see);
            }
            if (hit.equals("stays")) {
                return NONE;
            }
            state = next(state, hand(state, 0));
        }
        return NONE;
    }

    private boolean canMeet(State state, int p) {
        if (over(state)) {
            return meets(p, state.people());
        }
        int ways = asks(state) ? answers.size() : 1;
        boolean own = asks(state) && asker(state) == p;
        for (int a = 0; a < ways; a++) {
            int hand = hand(state, a);
            boolean met = hit.equals("stays") ? meets(p, 1 << hand / 2)
                : canMeet(next(state, hand), p);
            if (met == own) {
                return own;
            }
        }
        return !own;
    }

    int sure(int p) {
        if (!isGame() || p < 0 || p >= people.size()) {
            return NONE;
        }
        return canMeet(atFirst(), p) ? 1 : 0;
    }

    /** Upper and lower number of a SHARE. */
    private BigInteger[] chance(State state, int p) {
        if (over(state)) {
            return fraction((state.people() >> p & 1), 1);
        }
        int ways = asks(state) ? answers.size() : 1;
        BigInteger[] sum = fraction(0, 1);
        for (int a = 0; a < ways; a++) {
            int hand = hand(state, a);
            BigInteger[] one = hit.equals("stays") ? fraction(hand / 2 == p ? 1 : 0, 1)
                : chance(next(state, hand), p);
            sum = new BigInteger[] {
                sum[0].multiply(one[1]).add(one[0].multiply(sum[1])), sum[1].multiply(one[1])};
            sum = reduced(sum);
        }
        return reduced(new BigInteger[] {sum[0], sum[1].multiply(BigInteger.valueOf(ways))});
    }

    private static BigInteger[] fraction(long upper, long lower) {
        return new BigInteger[] {BigInteger.valueOf(upper), BigInteger.valueOf(lower)};
    }

    private static BigInteger[] reduced(BigInteger[] f) {
        BigInteger g = f[0].gcd(f[1]);
        return new BigInteger[] {f[0].divide(g), f[1].divide(g)};
    }

    long share(int p, int what) {
        if (!isGame() || p < 0 || p >= people.size() || what < 0 || what > 1) {
            return Check.THROWN;
        }
        return chance(atFirst(), p)[what].longValueExact();
    }

    int mend() {
        if (!isGame()) {
            return NONE;
        }
        restSlot = rhymes.get(0);
        int found = NONE;
        for (rests = 0; rests <= 40 && found == NONE; rests++) {
            BigInteger[] first = chance(atFirst(), 0);
            boolean even = true;
            for (int p = 1; p < people.size() && even; p++) {
                BigInteger[] other = chance(atFirst(), p);
                even = first[0].equals(other[0]) && first[1].equals(other[1]);
            }
            found = even ? rests : NONE;
        }
        restSlot = NONE;
        rests = 0;
        return found;
    }

    // ---- versions

    private static <T> int least(List<T> one, List<T> other, Cost<T> cost) {
        int[][] d = new int[one.size() + 1][other.size() + 1];
        for (int i = one.size(); i >= 0; i--) {
            for (int j = other.size(); j >= 0; j--) {
                int best = i == one.size() && j == other.size() ? 0 : Integer.MAX_VALUE;
                if (i < one.size()) {
                    best = Math.min(best, d[i + 1][j] + cost.of(one.get(i), null));
                }
                if (j < other.size()) {
                    best = Math.min(best, d[i][j + 1] + cost.of(null, other.get(j)));
                }
                if (i < one.size() && j < other.size()) {
                    best = Math.min(best, d[i + 1][j + 1] + cost.of(one.get(i), other.get(j)));
                }
                d[i][j] = best;
            }
        }
        return d[0][0];
    }

    private interface Cost<T> {
        int of(T one, T other);
    }

    private static int lineCost(String one, String other) {
        if (one == null || other == null) {
            return (one == null ? other : one).split(" ").length;
        }
        return least(List.of(one.split(" ")), List.of(other.split(" ")),
            (a, b) -> a != null && a.equals(b) ? 0 : 1);
    }

    private static int between(List<String> one, List<String> other) {
        return least(one, other, Oracle::lineCost);
    }

    private List<String> lines(int s) {
        return List.of(slots[s].split("/"));
    }

    int changes(int s, int t) {
        return has(s) && has(t) ? between(lines(s), lines(t)) : NONE;
    }

    int parent(int s) {
        int best = NONE;
        for (int t = 0; t < 6; t++) {
            if (has(s) && has(t) && days[t] < days[s]
                    && (best == NONE || changes(t, s) < changes(best, s))) {
                best = t;
            }
        }
        return best;
    }

    int mixed(int s, int what) {
        int[] best = {NONE, NONE, NONE, NONE};
        if (!has(s) || what < 0 || what > 3) {
            return NONE;
        }
        List<String> lines = lines(s);
        for (int a = 0; a < 6; a++) {
            for (int b = 0; b < 6; b++) {
                for (int i = 1; i < lines.size(); i++) {
                    if (a == b || !has(a) || !has(b) || days[a] >= days[s] || days[b] >= days[s]) {
                        continue;
                    }
                    int cost = leastFirst(lines(a), lines.subList(0, i))
                        + leastLast(lines(b), lines.subList(i, lines.size()));
                    if (best[0] == NONE || cost < best[0]) {
                        best = new int[] {cost, a, b, i};
                    }
                }
            }
        }
        return best[what];
    }

    private static int leastFirst(List<String> from, List<String> to) {
        int best = Integer.MAX_VALUE;
        for (int j = 0; j <= from.size(); j++) {
            best = Math.min(best, between(from.subList(0, j), to));
        }
        return best;
    }

    private static int leastLast(List<String> from, List<String> to) {
        int best = Integer.MAX_VALUE;
        for (int j = 0; j <= from.size(); j++) {
            best = Math.min(best, between(from.subList(j, from.size()), to));
        }
        return best;
    }

    // ---- records

    private int held(State state, String record) {
        if (over(state) || state.hits >= record.length()) {
            return state.hits;
        }
        int best = state.hits;
        for (int a = 0; a < (asks(state) ? answers.size() : 1); a++) {
            int hand = hand(state, a);
            if (hand / 2 == record.charAt(state.hits)) {
                best = Math.max(best, hit.equals("stays") ? state.hits + 1
                    : held(next(state, hand), record));
            }
        }
        return best;
    }

    int holds() {
        String record = take();
        if (!isGame() || record.length() > 24 || !below(record, people.size())) {
            return NONE;
        }
        return held(atFirst(), record);
    }

    int explain() {
        String record = take();
        if (atFirst().in.size() > 8 || record.length() > 24 || !below(record, people.size())) {
            return NONE;
        }
        List<Integer> kept = rhymes;
        int bits = 0;
        for (int s = 0; s < 6; s++) {
            rhymes = List.of(s);
            if (has(s) && held(atFirst(), record) == record.length()) {
                bits |= 1 << s;
            }
        }
        rhymes = kept;
        return bits;
    }

    int told(int what) {
        int there = 0;
        for (int s = 0; s < 6; s++) {
            there += has(s) ? 1 : 0;
        }
        int[] told = {there, people.size(), answers.size(), tape.length(), out.size(), hits.size()};
        return what >= 0 && what < told.length ? told[what] : NONE;
    }

    boolean end(int n) {
        if (n < 0 || n > tape.length()) {
            return false;
        }
        tape = tape.substring(0, n);
        return true;
    }

    int feed(int... numbers) {
        if (tape.length() + 20 > 260) {
            return NONE;
        }
        for (int number : numbers) {
            tape += new String(new char[] {(char) (number >>> 24), (char) (number >>> 16 & 255),
                (char) (number >>> 8 & 255), (char) (number & 255)});
        }
        return tape.length();
    }
}
