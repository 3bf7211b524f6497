import java.util.Arrays;
import java.util.NoSuchElementException;

/**
 * A book of counting out: a tongue, rhymes, a yard, plays and games, versions and records.
 * Every row that a call needs is made with the object, so that no call makes anything but an
 * exception.
 */
public final class RhymeRing {
    public static final int NONE = -1;

    private static final int TAPE_MOST = 260;
    private static final int FED = 20;
    private static final int SLOTS = 6;
    private static final int NO_SLOT = -300;
    private static final int WORD_MOST = 12;
    private static final int PEOPLE_MOST = 12;
    private static final int ANSWERS_MOST = 5;
    private static final int LATEST_DAY = 999;
    private static final int RECORD_MOST = 24;
    private static final int RESTS_MOST = 40;
    private static final long RING_MOST = 1000000000000L;

    private final Tape tape;
    private final Tokens tokens;
    private Tongue tongue;
    private Tongue spareTongue;
    private Yard yard;
    private Yard spareYard;
    private final Rhyme[] slots;
    private Rhyme spareRhyme;
    private Words folk;
    private Words replies;
    private Words spareWords;
    private int faultKind;
    private final char[] out;
    private int outLength;
    private final Ring ring;
    private final Game table;
    private final Changes scales;
    private final int[] hits;
    private int hitCount;

    public RhymeRing() {
        tape = new Tape();
        tokens = new Tokens();
        tongue = new Tongue();
        spareTongue = new Tongue();
        yard = new Yard();
        spareYard = new Yard();
        slots = new Rhyme[SLOTS];
        for (int i = 0; i < slots.length; i++) {
            slots[i] = new Rhyme();
        }
        spareRhyme = new Rhyme();
        folk = new Words();
        replies = new Words();
        spareWords = new Words();
        out = new char[Rhyme.BYTES];
        table = new Game();
        ring = table.ring;
        scales = new Changes();
        hits = new int[Ring.HANDS];
    }

    // ---- the tape and the texts

    public int feed(int a, int b, int c, int d, int e) {
        if (tape.length + FED > TAPE_MOST) {
            return NONE;
        }
        tape.put(a);
        tape.put(b);
        tape.put(c);
        tape.put(d);
        tape.put(e);
        return tape.length;
    }

    public boolean end(int n) {
        if (n < 0 || n > tape.length) {
            return false;
        }
        tape.length = n;
        return true;
    }

    public int tongue() {
        tokens.open(tape.bytes, tape.take());
        int rules = spareTongue.read(tokens, Tongue.RULES, Tongue.RULE_COUNT);
        faultKind = tokens.fault;
        if (rules < 0) {
            return -1 - tokens.start;
        }
        Tongue old = tongue;
        tongue = spareTongue;
        spareTongue = old;
        measureAll();
        return rules;
    }

    public int yard() {
        tokens.open(tape.bytes, tape.take());
        int rules = spareYard.read(tokens, Yard.RULES, Yard.RULE_COUNT);
        faultKind = tokens.fault;
        if (rules < 0) {
            return -1 - tokens.start;
        }
        Yard old = yard;
        yard = spareYard;
        spareYard = old;
        return rules;
    }

    public int rhyme(int s) {
        int length = tape.take();
        if (!isSlot(s)) {
            return NO_SLOT;
        }
        int lines = spareRhyme.read(tape.bytes, length);
        faultKind = spareRhyme.fault;
        if (lines < 0) {
            return lines;
        }
        Rhyme old = slots[s];
        slots[s] = spareRhyme;
        spareRhyme = old;
        slots[s].measure(tongue);
        return lines;
    }

    public int fault() {
        return faultKind;
    }

    public int people() {
        if (!spareWords.read(tape.bytes, tape.take(), PEOPLE_MOST)) {
            return NONE;
        }
        Words old = folk;
        folk = spareWords;
        spareWords = old;
        folk.measure(tongue);
        return folk.count;
    }

    public int answers() {
        if (!spareWords.read(tape.bytes, tape.take(), ANSWERS_MOST)) {
            return NONE;
        }
        Words old = replies;
        replies = spareWords;
        spareWords = old;
        return replies.count;
    }

    public boolean forget(int s) {
        Rhyme rhyme = rhymeIn(s);
        if (rhyme == null) {
            return false;
        }
        rhyme.there = false;
        return true;
    }

    public boolean born(int s, int day) {
        Rhyme rhyme = rhymeIn(s);
        if (rhyme == null || day < 0 || day > LATEST_DAY) {
            return false;
        }
        rhyme.day = day;
        return true;
    }

    // ---- words, lines and feet

    public int beats() {
        int length = tape.take();
        return tape.isWord(length) ? tongue.beatsIn(tape.bytes, 0, length) : NONE;
    }

    public int strong() {
        int length = tape.take();
        return tape.isWord(length) ? tongue.strongOf(tongue.beatsIn(tape.bytes, 0, length)) : NONE;
    }

    public int counted(int s, boolean beats) {
        Rhyme rhyme = rhymeIn(s);
        return rhyme == null ? NONE : rhyme.total(beats);
    }

    public int feet(int s, int line) {
        Rhyme rhyme = rhymeIn(s);
        if (rhyme == null || !rhyme.hasLine(line)) {
            return NONE;
        }
        outLength = rhyme.feetInto(line, tongue, out);
        return outLength;
    }

    public int octet(int k) throws NoSuchElementException {
        if (k < 0 || k >= outLength || k >= out.length) {
            throw new NoSuchElementException();
        }
        return out[k];
    }

    public int alike(int s, int t) {
        Rhyme one = rhymeIn(s);
        Rhyme other = rhymeIn(t);
        return one == null || other == null ? NONE : scales.likeLines(one, other, tongue);
    }

    // ---- plays and great rings

    public int play() {
        int told = tape.take();
        if (!tape.isBelow(told, replies.count) || !areRhymesThere()) {
            return NONE;
        }
        ring.gather(yard, folk, replies);
        learnRhymes();
        return walk(told);
    }

    public int hit(int i) {
        return i >= 0 && i < hitCount && i < hits.length ? hits[i] : NONE;
    }

    public long last(long n) {
        Rhyme rhyme = rhymeIn(yard.rhymeAt(0));
        if (n < 1 || n > RING_MOST || rhyme == null || rhyme.hasNameOrAsk()) {
            return NONE;
        }
        return survivor(n, rhyme.total(yard.countsBeats()));
    }

    // ---- games

    public int game(int see) {
        if (!isGameReady() || !areFolk(see)) {
            return NONE;
        }
        return table.leftBy(see, yard.wantsLeft());
    }

    public int says(int see) {
        if (!isGameReady() || !areFolk(see)) {
            return NONE;
        }
        return table.firstAnswer(see, yard.wantsLeft());
    }

    public int sure(int p) {
        if (!isGameReady() || !isPerson(p)) {
            return NONE;
        }
        return table.isSure(p, yard.wantsLeft()) ? 1 : 0;
    }

    public int share(int p, int what) throws NoSuchElementException {
        if (!isGameReady() || !isPerson(p) || what < 0 || what > 1) {
            throw new NoSuchElementException();
        }
        table.reckonShares();
        int upper = table.shareOf(p);
        int lower = table.wholeShare();
        int divisor = commonDivisor(upper, lower);
        if (divisor < 1) {
            return what;
        }
        return (what == 0 ? upper : lower) / divisor;
    }

    public int mend() {
        if (!isGameReady()) {
            return NONE;
        }
        // By words a rest counts nothing, so that more of them change nothing.
        int most = yard.countsBeats() ? RESTS_MOST : 0;
        for (int rests = 0; rests <= most; rests++) {
            ring.rest(yard.rhymeAt(0), rests);
            table.reckonShares();
            if (table.areSharesEven()) {
                return rests;
            }
        }
        return NONE;
    }

    // ---- versions

    public int changes(int s, int t) {
        Rhyme one = rhymeIn(s);
        Rhyme other = rhymeIn(t);
        return one == null || other == null ? NONE : scales.between(one, other);
    }

    public int parent(int s) {
        Rhyme child = rhymeIn(s);
        if (child == null) {
            return NONE;
        }
        int best = NONE;
        int fewest = 0;
        for (int t = 0; t < SLOTS; t++) {
            Rhyme elder = elderIn(t, child);
            if (elder != null) {
                int cost = scales.between(elder, child);
                if (best == NONE || cost < fewest) {
                    best = t;
                    fewest = cost;
                }
            }
        }
        return best;
    }

    public int mixed(int s, int what) {
        Rhyme child = rhymeIn(s);
        if (child == null || what < 0 || what > 3) {
            return NONE;
        }
        for (int t = 0; t < SLOTS; t++) {
            Rhyme elder = elderIn(t, child);
            if (elder != null) {
                scales.weighParts(t, elder, child);
            }
        }
        return mixture(child, what);
    }

    // ---- records

    public int holds() {
        int told = tape.take();
        if (!isGameReady() || !isRecord(told)) {
            return NONE;
        }
        return table.follow(tape.bytes, told);
    }

    public int explain() {
        int told = tape.take();
        ring.gather(yard, folk, replies);
        if (ring.isTooGreat() || !isRecord(told)) {
            return NONE;
        }
        int found = 0;
        for (int s = 0; s < SLOTS; s++) {
            Rhyme rhyme = rhymeIn(s);
            if (rhyme != null) {
                ring.learn(s, rhyme);
                ring.useOnly(s);
                if (table.follow(tape.bytes, told) == told) {
                    found |= 1 << s;
                }
            }
        }
        return found;
    }

    public int told(int what) {
        switch (what) {
            case 0:
                return rhymeCount();
            case 1:
                return folk.count;
            case 2:
                return replies.count;
            case 3:
                return tape.length;
            case 4:
                return outLength;
            case 5:
                return hitCount;
            default:
                return NONE;
        }
    }

    // ---- helpers of the face

    private static boolean isSmall(char c) {
        return c >= 'a' && c <= 'z';
    }

    private static boolean isDigit(char c) {
        return c >= '0' && c <= '9';
    }

    private static boolean isSlot(int s) {
        return s >= 0 && s < SLOTS;
    }

    /** The RHYME of a SLOT; null, if there is none. */
    private Rhyme rhymeIn(int s) {
        Rhyme rhyme = isSlot(s) ? slots[s] : null;
        return rhyme != null && rhyme.there ? rhyme : null;
    }

    /** All that is kept in BEATS is kept by THE TONGUE of now. */
    private void measureAll() {
        folk.measure(tongue);
        for (int s = 0; s < SLOTS; s++) {
            Rhyme rhyme = rhymeIn(s);
            if (rhyme != null) {
                rhyme.measure(tongue);
            }
        }
    }

    private Rhyme elderIn(int s, Rhyme child) {
        Rhyme rhyme = rhymeIn(s);
        return rhyme != null && rhyme.day < child.day ? rhyme : null;
    }

    private int rhymeCount() {
        int count = 0;
        for (int s = 0; s < SLOTS; s++) {
            if (rhymeIn(s) != null) {
                count++;
            }
        }
        return count;
    }

    private boolean isPerson(int p) {
        return p >= 0 && p < folk.count;
    }

    private boolean areFolk(int bits) {
        return (bits & ~((1 << folk.count) - 1)) == 0;
    }

    private boolean isRecord(int told) {
        return told <= RECORD_MOST && tape.isBelow(told, folk.count);
    }

    private boolean areRhymesThere() {
        for (int i = 0; i < yard.rhymeCount; i++) {
            if (rhymeIn(yard.rhymeAt(i)) == null) {
                return false;
            }
        }
        return true;
    }

    private void learnRhymes() {
        for (int i = 0; i < yard.rhymeCount; i++) {
            Rhyme rhyme = rhymeIn(yard.rhymeAt(i));
            if (rhyme != null) {
                ring.learn(yard.rhymeAt(i), rhyme);
            }
        }
    }

    private boolean isGameReady() {
        ring.gather(yard, folk, replies);
        if (ring.isTooGreat() || !areRhymesThere()) {
            return false;
        }
        learnRhymes();
        return true;
    }

    /** Walks a PLAY by the first bytes that the tape had; who is LEFT, as bits. */
    private int walk(int told) {
        int in = ring.allHands();
        int begin = 0;
        int asks = 0;
        hitCount = 0;
        while (hitCount < hits.length && !ring.isOver(in)) {
            ring.reckon(in, begin, hitCount);
            int answer = 0;
            if (ring.askerOf(hitCount) != NONE) {
                answer = tape.byteOr(asks, told, 0);
                asks++;
            }
            int hand = ring.handHit(hitCount, answer);
            hits[hitCount] = ring.ownerOf(hand);
            hitCount++;
            if (ring.stays) {
                return 1 << ring.ownerOf(hand);
            }
            in &= ~(1 << hand);
            begin = ring.nextBegin(in, begin, hand, hitCount);
        }
        return ring.owners(in);
    }

    /**
     * Adds HEADS one by one, but takes in one sum all those behind which the one who is LEFT
     * does not yet come round: so a great RING needs about step times the logarithm of n sums.
     */
    private static long survivor(long n, int step) {
        if (step <= 1) {
            return n - 1;
        }
        long left = 0;
        long size = 1;
        for (int sums = 0; sums < 1000000 && size < n; sums++) {
            long added = Math.min((size - left - 1) / (step - 1), n - size);
            size += added;
            left += added * step;
            if (size < n) {
                size++;
                left = (left + step) % size;
            }
        }
        return left;
    }

    private static int commonDivisor(int a, int b) {
        int greater = a;
        int lesser = b;
        for (int i = 0; i < 64 && lesser != 0; i++) {
            int rest = greater % lesser;
            greater = lesser;
            lesser = rest;
        }
        return greater;
    }

    /** The best a, b and cut of the child, whose elders are weighed in parts. */
    private int mixture(Rhyme child, int what) {
        int least = NONE;
        int bestA = NONE;
        int bestB = NONE;
        int bestCut = NONE;
        for (int a = 0; a < SLOTS; a++) {
            for (int b = 0; b < SLOTS; b++) {
                if (a != b && elderIn(a, child) != null && elderIn(b, child) != null) {
                    int cut = scales.bestCut(a, b, child.lines);
                    int cost = cut == NONE ? NONE : scales.mixtureCost(a, b, cut);
                    if (cost != NONE && (least == NONE || cost < least)) {
                        least = cost;
                        bestA = a;
                        bestB = b;
                        bestCut = cut;
                    }
                }
            }
        }
        switch (what) {
            case 0:
                return least;
            case 1:
                return bestA;
            case 2:
                return bestB;
            default:
                return bestCut;
        }
    }

    /** Bytes as characters 0 to 255, so that none is below 0. */
    private static final class Tape {
        private final char[] bytes = new char[TAPE_MOST];
        private int length;

        private void put(int number) {
            for (int shift = 24; shift >= 0; shift -= 8) {
                if (length >= 0 && length < bytes.length) {
                    bytes[length] = (char) (number >> shift & 255);
                    length++;
                }
            }
        }

        /** Empties the tape; what it had can be read till the next feed, and is so many bytes. */
        private int take() {
            int had = length;
            length = 0;
            return had;
        }

        private boolean isWord(int size) {
            if (size < 1 || size > WORD_MOST) {
                return false;
            }
            for (int i = 0; i < size && i < bytes.length; i++) {
                if (!isSmall(bytes[i])) {
                    return false;
                }
            }
            return true;
        }

        private boolean isBelow(int size, int bound) {
            for (int i = 0; i < size && i < bytes.length; i++) {
                if (bytes[i] >= bound) {
                    return false;
                }
            }
            return true;
        }

        private int byteOr(int k, int size, int other) {
            return k >= 0 && k < size && k < bytes.length ? bytes[k] : other;
        }
    }

    /** The TOKENS of a text of THE TONGUE or THE YARD, one at a time, up to the first FAULT. */
    private static final class Tokens {
        private static final int END = 0;
        private static final int WORD = 1;
        private static final int NUMBER = 2;
        private static final int STOP = 3;
        private static final int ODD = 4;

        private static final int FAULT_ODD = 1;
        private static final int FAULT_PLACE = 2;
        private static final int FAULT_KIND = 3;
        private static final int FAULT_TWICE = 4;

        private char[] text = new char[0];
        private int length;
        private int start;
        private int after;
        private int kind;
        private int fault;

        private void open(char[] bytes, int size) {
            text = bytes;
            length = Math.min(size, bytes.length);
            after = 0;
            fault = 0;
            step();
        }

        private void step() {
            int at = after;
            while (at < length && (text[at] == ' ' || text[at] == '\n')) {
                at++;
            }
            start = at;
            int letters = 0;
            while (at < length && (isSmall(text[at]) || isDigit(text[at]))) {
                if (isSmall(text[at])) {
                    letters++;
                }
                at++;
            }
            after = at;
            if (at > start) {
                kind = kindOfRun(letters, at - start);
            } else if (at >= length) {
                kind = END;
            } else {
                kind = text[at] == ';' ? STOP : ODD;
                after = at + 1;
            }
        }

        private static int kindOfRun(int letters, int size) {
            if (letters == size && size <= WORD_MOST) {
                return WORD;
            }
            return letters == 0 && size == 1 ? NUMBER : ODD;
        }

        private int size() {
            return after - start;
        }

        private int digit() {
            return kind == NUMBER && start < text.length ? text[start] - '0' : NONE;
        }

        /** Which of the names, parted by one blank, the TOKEN is. */
        private int pick(String names) {
            if (kind != WORD) {
                return NONE;
            }
            int index = 0;
            int from = 0;
            for (int i = 0; i <= names.length(); i++) {
                if (i == names.length() || names.charAt(i) == ' ') {
                    if (spells(names, from, i)) {
                        return index;
                    }
                    index++;
                    from = i + 1;
                }
            }
            return NONE;
        }

        private boolean spells(String names, int from, int to) {
            if (to - from != size()) {
                return false;
            }
            for (int i = 0; i < size(); i++) {
                if (names.charAt(from + i) != text[start + i]) {
                    return false;
                }
            }
            return true;
        }

        private boolean refuse(int why) {
            fault = why;
            return false;
        }

        private boolean refuseHere() {
            return refuse(kind == ODD ? FAULT_ODD : FAULT_PLACE);
        }

        private boolean passStop() {
            if (kind != STOP) {
                return refuseHere();
            }
            step();
            return true;
        }

        /** Which RULE begins here, one that is not yet among those seen; NONE with a FAULT. */
        private int passRule(String rules, int seen) {
            int rule = pick(rules);
            if (rule == NONE) {
                refuseHere();
                return NONE;
            }
            if ((seen >> rule & 1) != 0) {
                refuse(FAULT_TWICE);
                return NONE;
            }
            step();
            return rule;
        }
    }

    /** What a text of RULES, each once at most, tells. */
    private abstract static class Rules {
        /** As without a text. */
        abstract void reset();

        /** Reads a RULE from behind its first WORD to its end; false with a FAULT. */
        abstract boolean readRule(int rule, Tokens t);

        /** How many RULES the text has; NONE with a FAULT, which the tokens tell. */
        int read(Tokens t, String names, int most) {
            reset();
            int seen = 0;
            for (int rules = 0; rules <= most; rules++) {
                if (t.kind == Tokens.END) {
                    return rules;
                }
                int rule = t.passRule(names, seen);
                if (rule == NONE || !readRule(rule, t) || !t.passStop()) {
                    return NONE;
                }
                seen |= 1 << rule;
            }
            return NONE;
        }
    }

    /** THE TONGUE. */
    private static final class Tongue extends Rules {
        private static final String RULES = "vowels joined mute strong";
        private static final int RULE_COUNT = 4;
        private static final int VOWELS = 0;
        private static final int JOINED = 1;
        private static final int MUTE = 2;
        private static final String STRONG_ONES = "first second last";
        private static final int FIRST = 0;
        private static final int SECOND = 1;
        private static final int MUTE_LETTERS = 3;
        /** The letters a e i o u y as bits. */
        private static final int USUAL_VOWELS =
            1 | 1 << 'e' - 'a' | 1 << 'i' - 'a' | 1 << 'o' - 'a' | 1 << 'u' - 'a' | 1 << 'y' - 'a';

        private int vowels = USUAL_VOWELS;
        private final int[] joined = new int[12];
        private int joinedCount;
        private final int[] mute = new int[6];
        private int muteCount;
        private int strongOne;

        void reset() {
            vowels = USUAL_VOWELS;
            joinedCount = 0;
            muteCount = 0;
            strongOne = FIRST;
        }

        boolean readRule(int rule, Tokens t) {
            switch (rule) {
                case VOWELS:
                    return readVowels(t);
                case JOINED:
                    joinedCount = readParts(t, joined, 2, 2);
                    return joinedCount > 0;
                case MUTE:
                    muteCount = readParts(t, mute, 1, MUTE_LETTERS);
                    return muteCount > 0;
                default:
                    return readStrong(t);
            }
        }

        private boolean readVowels(Tokens t) {
            if (t.kind != Tokens.WORD) {
                return t.refuseHere();
            }
            vowels = 0;
            for (int i = t.start; i < t.after && i < t.text.length; i++) {
                vowels |= 1 << t.text[i] - 'a';
            }
            t.step();
            return true;
        }

        private boolean readStrong(Tokens t) {
            strongOne = t.pick(STRONG_ONES);
            if (strongOne == NONE) {
                return t.refuseHere();
            }
            t.step();
            return true;
        }

        /** Fills the row with WORDS of least to most letters; how many, 0 with a FAULT. */
        private static int readParts(Tokens t, int[] row, int least, int most) {
            for (int count = 0; count <= row.length; count++) {
                if (t.kind != Tokens.WORD) {
                    if (count == 0) {
                        t.refuseHere();
                    }
                    return count;
                }
                if (t.size() < least || t.size() > most || count == row.length) {
                    t.refuse(Tokens.FAULT_KIND);
                    return 0;
                }
                row[count] = packed(t.text, t.start, t.size());
                t.step();
            }
            return 0;
        }

        /** Up to three letters as one number; no two parts have the same. */
        private static int packed(char[] text, int from, int size) {
            int code = 0;
            for (int i = from; i < from + size && i < text.length; i++) {
                code = code << 8 | text[i];
            }
            return code;
        }

        private static boolean isAmong(int[] row, int count, int code) {
            for (int i = 0; i < count && i < row.length; i++) {
                if (row[i] == code) {
                    return true;
                }
            }
            return false;
        }

        private int beatsIn(char[] text, int from, int size) {
            int all = vowelBeats(text, from, size);
            int ahead = all & (1 << size - mutedLetters(text, from, size)) - 1;
            return Math.max(1, Integer.bitCount(ahead != 0 ? ahead : all));
        }

        /** The letters that are BEATS as bits, whatever ending is mute. */
        private int vowelBeats(char[] text, int from, int size) {
            int beats = 0;
            boolean canJoin = false;
            for (int i = 0; i < size && from + i < text.length; i++) {
                char letter = text[from + i];
                boolean vowel = isSmall(letter) && (vowels >> letter - 'a' & 1) != 0;
                boolean second = vowel && canJoin
                    && isAmong(joined, joinedCount, packed(text, from + i - 1, 2));
                if (vowel && !second) {
                    beats |= 1 << i;
                }
                canJoin = vowel && !second;
            }
            return beats;
        }

        private int mutedLetters(char[] text, int from, int size) {
            for (int letters = Math.min(size, MUTE_LETTERS); letters > 0; letters--) {
                if (isAmong(mute, muteCount, packed(text, from + size - letters, letters))) {
                    return letters;
                }
            }
            return 0;
        }

        private int strongOf(int beats) {
            if (strongOne == FIRST || beats < 2) {
                return 0;
            }
            return strongOne == SECOND ? 1 : beats - 1;
        }
    }

    /** THE YARD: what each RULE of two or three choices tells stands in a row by the RULE. */
    private static final class Yard extends Rules {
        private static final String RULES = "count by hit then turn left rhymes aim";
        private static final int RULE_COUNT = 8;
        private static final int COUNT = 0;
        private static final int BY = 1;
        private static final int HIT = 2;
        private static final int THEN = 3;
        private static final int TURN = 4;
        private static final int LEFT = 5;
        private static final int RHYMES = 6;
        private static final int AIM = 7;
        private static final int RHYMES_MOST = 4;

        private static final int SAME = 1;
        private static final int CALLER = 2;

        private final int[] told = new int[RULE_COUNT];
        private final int[] rhymes = new int[RHYMES_MOST];
        private int rhymeCount;

        private Yard() {
            setUsual();
        }

        void reset() {
            setUsual();
        }

        private void setUsual() {
            Arrays.fill(told, 0);
            told[COUNT] = 1;
            told[LEFT] = 1;
            told[AIM] = 1;
            rhymes[0] = 0;
            rhymeCount = 1;
        }

        boolean readRule(int rule, Tokens t) {
            if (rule == LEFT) {
                return readLeft(t);
            }
            if (rule == RHYMES) {
                return readRhymes(t);
            }
            int choice = t.pick(choicesOf(rule));
            if (choice == NONE || rule < 0 || rule >= told.length) {
                return t.refuseHere();
            }
            told[rule] = choice;
            t.step();
            return true;
        }

        private static String choicesOf(int rule) {
            switch (rule) {
                case COUNT:
                    return "words beats";
                case BY:
                    return "heads fists";
                case HIT:
                    return "out stays";
                case THEN:
                    return "next same caller";
                case TURN:
                    return "never always";
                default:
                    return "left free";
            }
        }

        private boolean readLeft(Tokens t) {
            if (t.kind != Tokens.NUMBER) {
                return t.refuseHere();
            }
            if (t.digit() < 1) {
                return t.refuse(Tokens.FAULT_KIND);
            }
            told[LEFT] = t.digit();
            t.step();
            return true;
        }

        private boolean readRhymes(Tokens t) {
            for (int count = 0; count <= rhymes.length; count++) {
                if (t.kind != Tokens.NUMBER) {
                    rhymeCount = count;
                    return count > 0 || t.refuseHere();
                }
                if (count == rhymes.length || !isSlot(t.digit())) {
                    return t.refuse(Tokens.FAULT_KIND);
                }
                rhymes[count] = t.digit();
                t.step();
            }
            return false;
        }

        private int rhymeAt(int i) {
            return i >= 0 && i < rhymeCount && i < rhymes.length ? rhymes[i] : NONE;
        }

        private boolean countsBeats() {
            return told[COUNT] == 1;
        }

        private boolean hasFists() {
            return told[BY] == 1;
        }

        private boolean hitStays() {
            return told[HIT] == 1;
        }

        private int nextFrom() {
            return told[THEN];
        }

        private boolean turnsAlways() {
            return told[TURN] == 1;
        }

        private int leftMost() {
            return told[LEFT];
        }

        private boolean wantsLeft() {
            return told[AIM] == 0;
        }
    }

    /** NAMES or ANSWERS; a new one has the WORD a alone. */
    private static final class Words {
        private final char[] letters = new char[PEOPLE_MOST * WORD_MOST];
        private final int[] from = new int[PEOPLE_MOST + 1];
        private final int[] beats = new int[PEOPLE_MOST];
        private int count;

        private Words() {
            letters[0] = 'a';
            from[1] = 1;
            beats[0] = 1;
            count = 1;
        }

        /** Reads 1 to most WORDS with one blank between; false, if they are not as told. */
        private boolean read(char[] text, int length, int most) {
            int put = 0;
            int size = 0;
            count = 0;
            for (int i = 0; i <= length; i++) {
                char c = i < length && i < text.length ? text[i] : ' ';
                if (isSmall(c)) {
                    if (size == WORD_MOST || count >= most || put >= letters.length) {
                        return false;
                    }
                    letters[put] = c;
                    put++;
                    size++;
                } else {
                    if (c != ' ' || size == 0 || count + 1 >= from.length) {
                        return false;
                    }
                    count++;
                    from[count] = put;
                    size = 0;
                }
            }
            return count > 0;
        }

        private int lettersOf(int i) {
            return i >= 0 && i < count && i + 1 < from.length ? from[i + 1] - from[i] : 0;
        }

        private void measure(Tongue tongue) {
            for (int i = 0; i < count && i < beats.length; i++) {
                beats[i] = tongue.beatsIn(letters, from[i], lettersOf(i));
            }
        }

        private int beatsOf(int i) {
            return i >= 0 && i < count && i < beats.length ? beats[i] : 0;
        }
    }

    /** A RHYME, there or not: its text, and where its LINES and ITEMS (TIMES are one) begin. */
    private static final class Rhyme {
        private static final int BYTES = 240;
        private static final int LINES = 16;
        private static final int ITEMS = BYTES / 2;

        private static final int WORD = 0;
        private static final int SPELLED = 1;
        private static final int REST = 2;
        private static final int NAME = 3;
        private static final int ASK = 4;
        private static final int TIMES = 5;

        private static final int AT_LINE = 0;
        private static final int AT_X = 1;
        private static final int AT_BLANK = 2;
        private static final int AT_ITEM = 3;
        private static final int IN_WORD = 4;
        private static final int BEHIND_ITEM = 5;
        private static final int AT_END = 6;

        private static final int FAULT_BYTE = 1;
        private static final int FAULT_MOST = 2;
        private static final int FAULT_DUMB = 3;

        private final char[] text = new char[BYTES];
        private int length;
        private final int[] itemFrom = new int[ITEMS];
        private final int[] itemKind = new int[ITEMS];
        private final int[] itemBeats = new int[ITEMS];
        private int items;
        private final int[] lineFrom = new int[LINES + 1];
        private int lines;
        private int day;
        private boolean there;

        private int fault;
        private int state;
        private int letters;
        private boolean timed;
        private boolean sounds;

        /** Reads a text: how many LINES; -1 - the place of a FAULT, and nothing is there then. */
        private int read(char[] source, int size) {
            there = false;
            day = 0;
            items = 0;
            lines = 1;
            lineFrom[0] = 0;
            state = AT_LINE;
            timed = false;
            sounds = false;
            length = Math.min(size, Math.min(text.length, source.length));
            for (int at = 0; at < length; at++) {
                text[at] = source[at];
                int bad = take(source[at], at);
                if (bad != 0) {
                    return refuse(bad, at);
                }
            }
            if (size > length || state < IN_WORD) {
                return refuse(FAULT_BYTE, length);
            }
            if (!sounds) {
                return refuse(FAULT_DUMB, 0);
            }
            endLine();
            fault = 0;
            there = true;
            return lines;
        }

        private int refuse(int why, int place) {
            fault = why;
            return -1 - place;
        }

        /** Goes on by one byte; 0, or the FAULT that it is. */
        private int take(char c, int at) {
            switch (state) {
                case AT_LINE:
                    return takeFirst(c, at);
                case AT_X:
                    state = AT_BLANK;
                    return c == 'x' ? 0 : FAULT_BYTE;
                case AT_BLANK:
                    state = AT_ITEM;
                    return c == ' ' ? 0 : FAULT_BYTE;
                case AT_ITEM:
                    return takeItem(c, at);
                case IN_WORD:
                    return takeInWord(c);
                case BEHIND_ITEM:
                    return takeBehind(c);
                default:
                    return FAULT_BYTE;
            }
        }

        private int takeFirst(char c, int at) {
            timed = c >= '2' && c <= '9';
            if (timed) {
                beginItem(at, TIMES);
                state = AT_X;
                return 0;
            }
            return takeItem(c, at);
        }

        private int takeItem(char c, int at) {
            int kind = kindFrom(c);
            if (kind == NONE || kind == ASK && timed) {
                return FAULT_BYTE;
            }
            beginItem(at, kind);
            letters = 1;
            sounds = sounds || kind == WORD || kind == NAME;
            if (kind == WORD) {
                state = IN_WORD;
            } else {
                state = kind == ASK ? AT_END : BEHIND_ITEM;
            }
            return 0;
        }

        private static int kindFrom(char first) {
            switch (first) {
                case '-':
                    return REST;
                case '@':
                    return NAME;
                case '?':
                    return ASK;
                default:
                    return isSmall(first) ? WORD : NONE;
            }
        }

        private int takeInWord(char c) {
            if (isSmall(c)) {
                letters++;
                return letters > WORD_MOST ? FAULT_MOST : 0;
            }
            if (c == '!') {
                spellItem();
                state = BEHIND_ITEM;
                return 0;
            }
            return takeBehind(c);
        }

        private int takeBehind(char c) {
            if (c == ' ') {
                state = AT_ITEM;
                return 0;
            }
            if (c != '/') {
                return FAULT_BYTE;
            }
            if (lines >= LINES) {
                return FAULT_MOST;
            }
            endLine();
            lines++;
            state = AT_LINE;
            return 0;
        }

        private void beginItem(int at, int kind) {
            if (items >= 0 && items < ITEMS) {
                itemFrom[items] = at;
                itemKind[items] = kind;
                items++;
            }
        }

        private void spellItem() {
            if (items > 0 && items <= ITEMS) {
                itemKind[items - 1] = SPELLED;
            }
        }

        private void endLine() {
            if (lines > 0 && lines < lineFrom.length) {
                lineFrom[lines] = items;
            }
        }

        private boolean hasLine(int line) {
            return line >= 0 && line < lines;
        }

        /** The first ITEM of a LINE; of the LINE behind the last one, how many ITEMS there are. */
        private int firstItem(int line) {
            return line >= 0 && line <= lines && line < lineFrom.length ? lineFrom[line] : items;
        }

        private int itemsIn(int line) {
            return firstItem(line + 1) - firstItem(line);
        }

        private int start(int item) {
            return item >= 0 && item < items && item < itemFrom.length ? itemFrom[item] : length;
        }

        /** One byte, a blank or a stroke, stands between an ITEM and the next one. */
        private int size(int item) {
            return (item + 1 < items ? start(item + 1) - 1 : length) - start(item);
        }

        private char byteAt(int at) {
            return at >= 0 && at < length && at < text.length ? text[at] : ' ';
        }

        private int kindOf(int item) {
            return item >= 0 && item < items && item < ITEMS ? itemKind[item] : NONE;
        }

        private boolean isSameItem(int item, Rhyme other, int otherItem) {
            if (size(item) != other.size(otherItem)) {
                return false;
            }
            for (int i = 0; i < size(item); i++) {
                if (byteAt(start(item) + i) != other.byteAt(other.start(otherItem) + i)) {
                    return false;
                }
            }
            return true;
        }

        private int timesOf(int line) {
            int first = firstItem(line);
            return kindOf(first) == TIMES ? byteAt(start(first)) - '0' : 1;
        }

        private boolean hasAsk() {
            return kindOf(items - 1) == ASK;
        }

        private boolean hasNameOrAsk() {
            for (int item = 0; item < items; item++) {
                if (kindOf(item) == NAME) {
                    return true;
                }
            }
            return hasAsk();
        }

        /** Keeps what each ITEM is COUNTED by beats, a name, an ask and TIMES being 0. */
        private void measure(Tongue tongue) {
            for (int item = 0; item < items && item < ITEMS; item++) {
                int kind = itemKind[item];
                if (kind == WORD) {
                    itemBeats[item] = tongue.beatsIn(text, start(item), size(item));
                } else if (kind == REST) {
                    itemBeats[item] = 1;
                } else {
                    itemBeats[item] = kind == SPELLED ? size(item) - 1 : 0;
                }
            }
        }

        private int countOf(int item, boolean beats) {
            if (item < 0 || item >= items || item >= ITEMS) {
                return 0;
            }
            if (beats || itemKind[item] == SPELLED) {
                return itemBeats[item];
            }
            return itemKind[item] == WORD ? 1 : 0;
        }

        private int total(boolean beats) {
            int sum = 0;
            for (int line = 0; line < lines; line++) {
                int once = 0;
                for (int item = firstItem(line); item < firstItem(line + 1); item++) {
                    once += countOf(item, beats);
                }
                sum += once * timesOf(line);
            }
            return sum;
        }

        /** Writes the FEET of a LINE, 1 strong, 0 weak; how many. */
        private int feetInto(int line, Tongue tongue, char[] row) {
            int put = 0;
            for (int item = firstItem(line); item < firstItem(line + 1); item++) {
                int kind = kindOf(item);
                int size = kind == NAME ? 1 : countOf(item, true);
                int strongFoot = tongue.strongOf(size);
                for (int foot = 0; foot < size && put < row.length; foot++) {
                    boolean isStrong = kind == WORD ? foot == strongFoot : kind != REST;
                    row[put] = (char) (isStrong ? 1 : 0);
                    put++;
                }
            }
            return put;
        }
    }

    /**
     * A RHYME made ready to be COUNTED: for each LINE what is COUNTED ahead of each name, and
     * behind the last one. Only by beats are names kept, as by words each of them is 1.
     */
    private static final class Chant {
        private final int[] gaps = new int[Rhyme.ITEMS + Rhyme.LINES];
        private final int[] gapsFrom = new int[Rhyme.LINES + 1];
        private final int[] times = new int[Rhyme.LINES];
        private int lines;
        private int rests;
        private boolean asks;

        private void learn(Rhyme rhyme, boolean beats) {
            int put = 0;
            lines = Math.min(rhyme.lines, times.length);
            for (int line = 0; line < lines; line++) {
                gapsFrom[line] = put;
                times[line] = rhyme.timesOf(line);
                put = learnLine(rhyme, line, put, beats);
            }
            gapsFrom[lines] = put;
            rests = 0;
            asks = rhyme.hasAsk();
        }

        private int learnLine(Rhyme rhyme, int line, int from, boolean beats) {
            int put = from;
            int gap = 0;
            for (int item = rhyme.firstItem(line); item < rhyme.firstItem(line + 1); item++) {
                boolean isName = rhyme.kindOf(item) == Rhyme.NAME;
                if (isName && beats) {
                    put = putGap(put, gap);
                    gap = 0;
                } else {
                    gap += isName ? 1 : rhyme.countOf(item, beats);
                }
            }
            return putGap(put, gap);
        }

        private int putGap(int put, int gap) {
            if (put < 0 || put >= gaps.length) {
                return put;
            }
            gaps[put] = gap;
            return put + 1;
        }

        private int gapAt(int i) {
            return i >= 0 && i < gaps.length ? gaps[i] : 0;
        }
    }

    /**
     * PEOPLE round a RING as a PLAY or a GAME needs them: who is COUNTED, HIT, and where the
     * next COUNTING begins. Which HANDS are in stands in bits; how many were HIT tells the way
     * that one goes and the RHYME.
     */
    private static final class Ring {
        private static final int HANDS = 2 * PEOPLE_MOST;

        private final Chant[] chants = new Chant[SLOTS];
        private final int[] order = new int[Yard.RHYMES_MOST];
        private int orderCount = 1;
        private final int[] nameBeats = new int[PEOPLE_MOST];
        private final int[] letters = new int[ANSWERS_MOST];
        private int answerCount = 1;
        private final int[] row = new int[HANDS];
        private int rowSize;
        /** By how many were HIT before: the one asked, and the HAND HIT by each ANSWER. */
        private final int[] asked = new int[HANDS];
        private final int[][] struck = new int[HANDS][ANSWERS_MOST];
        private int persons = 1;
        private int perPerson = 1;
        private int hands = 1;
        private int leftMost = 1;
        private int nextFrom;
        private boolean beats;
        private boolean stays;
        private boolean turns;

        private Ring() {
            for (int i = 0; i < chants.length; i++) {
                chants[i] = new Chant();
            }
        }

        private void gather(Yard yard, Words names, Words answers) {
            persons = Math.min(names.count, nameBeats.length);
            for (int p = 0; p < persons; p++) {
                nameBeats[p] = names.beatsOf(p);
            }
            answerCount = Math.min(answers.count, letters.length);
            for (int a = 0; a < answerCount; a++) {
                letters[a] = answers.lettersOf(a);
            }
            orderCount = Math.min(yard.rhymeCount, order.length);
            for (int i = 0; i < orderCount; i++) {
                order[i] = yard.rhymeAt(i);
            }
            perPerson = yard.hasFists() ? 2 : 1;
            hands = persons * perPerson;
            leftMost = yard.leftMost();
            nextFrom = yard.nextFrom();
            beats = yard.countsBeats();
            stays = yard.hitStays();
            turns = yard.turnsAlways();
        }

        private void learn(int slot, Rhyme rhyme) {
            Chant chant = chantOf(slot);
            if (chant != null) {
                chant.learn(rhyme, beats);
            }
        }

        private void useOnly(int slot) {
            order[0] = slot;
            orderCount = 1;
        }

        private void rest(int slot, int rests) {
            Chant chant = chantOf(slot);
            if (chant != null) {
                chant.rests = rests;
            }
        }

        private Chant chantOf(int slot) {
            return isSlot(slot) ? chants[slot] : null;
        }

        private boolean isTooGreat() {
            return hands > Game.HANDS;
        }

        private int allHands() {
            return (1 << hands) - 1;
        }

        private int ownerOf(int hand) {
            return perPerson == 2 ? hand >> 1 : hand;
        }

        /** PEOPLE who have one of these HANDS, as bits. */
        private int owners(int in) {
            if (perPerson == 1) {
                return in;
            }
            int bits = 0;
            for (int p = 0; p < persons; p++) {
                if ((in >> 2 * p & 3) != 0) {
                    bits |= 1 << p;
                }
            }
            return bits;
        }

        /** Never, if HIT stays: then it is the first HIT that ends the PLAY. */
        private boolean isOver(int in) {
            return !stays && Integer.bitCount(owners(in)) <= leftMost;
        }

        private static boolean isIn(int in, int hand) {
            return (in >> hand & 1) != 0;
        }

        private int beside(int hand, int hitsBefore) {
            if (turns && (hitsBefore & 1) != 0) {
                return hand > 0 ? hand - 1 : hands - 1;
            }
            return hand + 1 < hands ? hand + 1 : 0;
        }

        private int nextIn(int in, int hand, int hitsBefore) {
            int at = hand;
            for (int i = 0; i < hands; i++) {
                at = beside(at, hitsBefore);
                if (isIn(in, at)) {
                    return at;
                }
            }
            return hand;
        }

        /** Where the next COUNTING begins, this HAND having been HIT and gone. */
        private int nextBegin(int in, int begin, int hand, int hitsBefore) {
            if (nextFrom == Yard.SAME) {
                return isIn(in, begin) ? begin : nextIn(in, begin, hitsBefore);
            }
            if (nextFrom == Yard.CALLER) {
                for (int first = 0; first < perPerson; first++) {
                    if (isIn(in, first)) {
                        return first;
                    }
                }
            }
            return nextIn(in, hand, hitsBefore);
        }

        private void lineUp(int in, int begin, int hitsBefore) {
            int at = begin;
            rowSize = 0;
            for (int i = 0; i < hands && i < row.length; i++) {
                if (isIn(in, at)) {
                    row[rowSize] = at;
                    rowSize++;
                }
                at = beside(at, hitsBefore);
            }
        }

        /** The HAND to which the one at this place comes, 0 being the first that is COUNTED. */
        private int handAt(int place) {
            if (rowSize < 1 || place < 0) {
                return 0;
            }
            int at = place % rowSize;
            return at < row.length ? row[at] : 0;
        }

        /** Counts from a HAND on; how many ANSWERS lead on from there (1 without an ask). */
        private int reckon(int in, int begin, int hitsBefore) {
            if (hitsBefore < 0 || hitsBefore >= HANDS || orderCount < 1) {
                return 0;
            }
            Chant chant = chantOf(order[hitsBefore % orderCount]);
            if (chant == null) {
                return 0;
            }
            lineUp(in, begin, hitsBefore);
            int latest = sayAll(chant) - 1;
            if (!chant.asks) {
                asked[hitsBefore] = NONE;
                struck[hitsBefore][0] = handAt(latest);
                return 1;
            }
            asked[hitsBefore] = ownerOf(handAt(latest));
            for (int a = 0; a < answerCount; a++) {
                struck[hitsBefore][a] = handAt(latest + letters[a]);
            }
            return answerCount;
        }

        private int sayAll(Chant chant) {
            int place = 0;
            for (int line = 0; line < chant.lines; line++) {
                int first = chant.gapsFrom[line];
                int behind = chant.gapsFrom[line + 1];
                if (behind - first == 1) {
                    place += chant.gapAt(first) * chant.times[line];
                } else {
                    for (int i = 0; i < chant.times[line]; i++) {
                        place = sayLine(chant, first, behind, place);
                    }
                }
            }
            return place + chant.rests;
        }

        private int sayLine(Chant chant, int first, int behind, int from) {
            int place = from;
            for (int i = first; i < behind; i++) {
                place += chant.gapAt(i);
                if (i + 1 < behind) {
                    place += beatsOfName(ownerOf(handAt(place)));
                }
            }
            return place;
        }

        private int beatsOfName(int p) {
            return p >= 0 && p < persons ? nameBeats[p] : 0;
        }

        private int askerOf(int hitsBefore) {
            return hitsBefore >= 0 && hitsBefore < HANDS ? asked[hitsBefore] : NONE;
        }

        private int handHit(int hitsBefore, int answer) {
            if (hitsBefore < 0 || hitsBefore >= HANDS || answer < 0 || answer >= ANSWERS_MOST) {
                return 0;
            }
            return struck[hitsBefore][answer];
        }
    }

    /**
     * A GAME on a ring of few HANDS. A COUNTING depends on the HANDS that are in and on where it
     * begins alone (how many were HIT follows from the first): so each such state is reckoned
     * once.
     */
    private static final class Game {
        private static final int HANDS = 8;
        private static final int STATES = (1 << HANDS) * HANDS;

        private final Ring ring = new Ring();
        private final int[] worth = new int[STATES];
        /** Whether a worth is of the reckoning that is on: so the rows need no clearing. */
        private final int[] mark = new int[STATES];
        private int now;
        private final int[] shares = new int[HANDS];
        private boolean wantsLeft;
        private int seers;
        private int judge;

        private static int key(int in, int begin) {
            return in * HANDS + begin;
        }

        private static boolean isKey(int key) {
            return key >= 0 && key < STATES;
        }

        private int hitsBefore(int in) {
            return ring.hands - Integer.bitCount(in);
        }

        // -- those who see ahead, and what one is sure of

        private int leftBy(int see, boolean aimLeft) {
            setOut(see, NONE, aimLeft);
            return worthOf(ring.allHands(), 0, 0);
        }

        private boolean isSure(int p, boolean aimLeft) {
            setOut(0, p, aimLeft);
            return worthOf(ring.allHands(), 0, 0) == 1;
        }

        private int firstAnswer(int see, boolean aimLeft) {
            setOut(see, NONE, aimLeft);
            int in = ring.allHands();
            int begin = 0;
            for (int hits = 0; hits < HANDS && !ring.isOver(in); hits++) {
                int ways = ring.reckon(in, begin, hits);
                int asker = ring.askerOf(hits);
                if (asker != NONE) {
                    for (int a = 0; a < ways && sees(asker); a++) {
                        if (meets(asker, worthAfter(in, begin, hits, a))) {
                            return a;
                        }
                    }
                    return 0;
                }
                if (ring.stays) {
                    return NONE;
                }
                int hand = ring.handHit(hits, 0);
                in &= ~(1 << hand);
                begin = ring.nextBegin(in, begin, hand, hits + 1);
            }
            return NONE;
        }

        private void setOut(int see, int p, boolean aimLeft) {
            seers = see;
            judge = p;
            wantsLeft = aimLeft;
            now++;
        }

        private boolean sees(int p) {
            return p >= 0 && (seers >> p & 1) != 0;
        }

        private boolean meets(int p, int left) {
            return p >= 0 && (left >> p & 1) != 0 == wantsLeft;
        }

        /** Without a judge who is LEFT, as bits; with one 1, if the judge's aim is met, else 0. */
        private int endWorth(int left) {
            if (judge == NONE) {
                return left;
            }
            return meets(judge, left) ? 1 : 0;
        }

        private int worthOf(int in, int begin, int hits) {
            if (ring.isOver(in)) {
                return endWorth(ring.owners(in));
            }
            int key = key(in, begin);
            if (hits >= HANDS || !isKey(key)) {
                return 0;
            }
            if (mark[key] == now) {
                return worth[key];
            }
            int ways = ring.reckon(in, begin, hits);
            int best = worthAfter(in, begin, hits, 0);
            for (int a = 1; a < ways && !isSettled(hits, best); a++) {
                best = better(hits, best, worthAfter(in, begin, hits, a));
            }
            mark[key] = now;
            worth[key] = best;
            return best;
        }

        private int worthAfter(int in, int begin, int hits, int answer) {
            int hand = ring.handHit(hits, answer);
            if (ring.stays) {
                return endWorth(1 << ring.ownerOf(hand));
            }
            int rest = in & ~(1 << hand);
            return worthOf(rest, ring.nextBegin(rest, begin, hand, hits + 1), hits + 1);
        }

        private boolean isSettled(int hits, int best) {
            int asker = ring.askerOf(hits);
            if (judge == NONE) {
                return !sees(asker) || meets(asker, best);
            }
            return best == (asker == judge ? 1 : 0);
        }

        /** Called while nothing is settled: without a judge the first ANSWER stands till then. */
        private int better(int hits, int best, int other) {
            if (judge == NONE) {
                return meets(ring.askerOf(hits), other) ? other : best;
            }
            return other;
        }

        // -- shares

        /**
         * What all ways together weigh: each ask parts the weight of a state evenly, and there
         * are less than HANDS asks one behind another.
         */
        private int wholeShare() {
            int whole = 1;
            for (int i = 0; i < HANDS; i++) {
                whole *= ring.answerCount;
            }
            return whole;
        }

        private int shareOf(int p) {
            return p >= 0 && p < shares.length ? shares[p] : 0;
        }

        private boolean areSharesEven() {
            for (int p = 1; p < ring.persons; p++) {
                if (shareOf(p) != shareOf(0)) {
                    return false;
                }
            }
            return true;
        }

        /** A HIT takes a bit away, so that going down all states come behind those ahead. */
        private void reckonShares() {
            Arrays.fill(shares, 0);
            now++;
            add(ring.allHands(), 0, wholeShare());
            for (int in = ring.allHands(); in > 0; in--) {
                for (int begin = 0; begin < ring.hands; begin++) {
                    int key = key(in, begin);
                    if (isKey(key) && mark[key] == now) {
                        pass(in, begin, worth[key]);
                    }
                }
            }
        }

        private void add(int in, int begin, int weight) {
            int key = key(in, begin);
            if (isKey(key)) {
                worth[key] = weight + (mark[key] == now ? worth[key] : 0);
                mark[key] = now;
            }
        }

        private void pass(int in, int begin, int weight) {
            if (ring.isOver(in)) {
                giveTo(ring.owners(in), weight);
                return;
            }
            int hits = hitsBefore(in);
            int ways = ring.reckon(in, begin, hits);
            if (ways < 1) {
                return;
            }
            for (int a = 0; a < ways; a++) {
                int hand = ring.handHit(hits, a);
                if (ring.stays) {
                    giveTo(1 << ring.ownerOf(hand), weight / ways);
                } else {
                    int rest = in & ~(1 << hand);
                    add(rest, ring.nextBegin(rest, begin, hand, hits + 1), weight / ways);
                }
            }
        }

        private void giveTo(int bits, int weight) {
            for (int p = 0; p < shares.length; p++) {
                if ((bits >> p & 1) != 0) {
                    shares[p] += weight;
                }
            }
        }

        // -- records

        /** Up to which one the record HOLDS. */
        private int follow(char[] record, int length) {
            int best = 0;
            now++;
            add(ring.allHands(), 0, 0);
            for (int in = ring.allHands(); in > 0; in--) {
                for (int begin = 0; begin < ring.hands; begin++) {
                    int key = key(in, begin);
                    if (isKey(key) && mark[key] == now) {
                        best = Math.max(best, followFrom(in, begin, record, length));
                    }
                }
            }
            return best;
        }

        /** How many hold behind one COUNTING more from a state that the record leads to. */
        private int followFrom(int in, int begin, char[] record, int length) {
            int hits = hitsBefore(in);
            if (ring.isOver(in) || hits < 0 || hits >= length || hits >= record.length) {
                return 0;
            }
            int ways = ring.reckon(in, begin, hits);
            int best = 0;
            for (int a = 0; a < ways; a++) {
                int hand = ring.handHit(hits, a);
                if (ring.ownerOf(hand) == record[hits]) {
                    best = hits + 1;
                    int rest = in & ~(1 << hand);
                    if (!ring.stays) {
                        add(rest, ring.nextBegin(rest, begin, hand, hits + 1), 0);
                    }
                }
            }
            return best;
        }
    }

    /** Two RHYMES held against each other. */
    private static final class Changes {
        /** More than any CHANGES. */
        private static final int FAR = 1000000;

        private final char[] feetOfOne = new char[Rhyme.BYTES];
        private final char[] feetOfOther = new char[Rhyme.BYTES];
        private final int[][] lineCost = new int[Rhyme.LINES][Rhyme.LINES];
        private final int[][] sums = new int[Rhyme.LINES + 1][Rhyme.LINES + 1];
        private final int[] row = new int[Rhyme.ITEMS + 1];
        /** By SLOT and cut: the least CHANGES from any first LINES, from any last ones. */
        private final int[][] ahead = new int[SLOTS][Rhyme.LINES + 1];
        private final int[][] behind = new int[SLOTS][Rhyme.LINES + 1];

        private int likeLines(Rhyme one, Rhyme other, Tongue tongue) {
            int both = Math.min(one.lines, other.lines);
            for (int line = 0; line < both; line++) {
                if (!isLikeLine(one, other, line, tongue)) {
                    return line;
                }
            }
            return both;
        }

        private boolean isLikeLine(Rhyme one, Rhyme other, int line, Tongue tongue) {
            int size = one.feetInto(line, tongue, feetOfOne);
            if (one.timesOf(line) != other.timesOf(line)
                    || size != other.feetInto(line, tongue, feetOfOther)) {
                return false;
            }
            for (int i = 0; i < size && i < feetOfOne.length; i++) {
                if (feetOfOne[i] != feetOfOther[i]) {
                    return false;
                }
            }
            return true;
        }

        private int between(Rhyme one, Rhyme other) {
            weighLines(one, other);
            sumForward(one, other);
            return sums[Math.min(one.lines, Rhyme.LINES)][Math.min(other.lines, Rhyme.LINES)];
        }

        private void weighLines(Rhyme one, Rhyme other) {
            for (int i = 0; i < one.lines && i < Rhyme.LINES; i++) {
                for (int j = 0; j < other.lines && j < Rhyme.LINES; j++) {
                    lineCost[i][j] = itemChanges(one, i, other, j);
                }
            }
        }

        private int itemChanges(Rhyme one, int line, Rhyme other, int otherLine) {
            int first = other.firstItem(otherLine);
            int size = Math.min(other.itemsIn(otherLine), row.length - 1);
            for (int k = 0; k <= size; k++) {
                row[k] = k;
            }
            for (int item = one.firstItem(line); item < one.firstItem(line + 1); item++) {
                int corner = row[0];
                row[0]++;
                for (int k = 1; k <= size; k++) {
                    int led = corner + (one.isSameItem(item, other, first + k - 1) ? 0 : 1);
                    corner = row[k];
                    row[k] = Math.min(led, Math.min(row[k], row[k - 1]) + 1);
                }
            }
            return row[size];
        }

        /** Fills the sums from the first i LINES of one to the first j of the other. */
        private void sumForward(Rhyme one, Rhyme other) {
            for (int i = 0; i <= one.lines && i <= Rhyme.LINES; i++) {
                for (int j = 0; j <= other.lines && j <= Rhyme.LINES; j++) {
                    int least = i == 0 && j == 0 ? 0 : FAR;
                    if (i > 0) {
                        least = Math.min(least, sums[i - 1][j] + one.itemsIn(i - 1));
                    }
                    if (j > 0) {
                        least = Math.min(least, sums[i][j - 1] + other.itemsIn(j - 1));
                    }
                    if (i > 0 && j > 0) {
                        least = Math.min(least, sums[i - 1][j - 1] + lineCost[i - 1][j - 1]);
                    }
                    sums[i][j] = least;
                }
            }
        }

        /** Fills the sums from the LINES of one from i on to those of the other from j on. */
        private void sumBackward(Rhyme one, Rhyme other) {
            int ends = Math.min(one.lines, Rhyme.LINES);
            int otherEnds = Math.min(other.lines, Rhyme.LINES);
            for (int i = ends; i >= 0; i--) {
                for (int j = otherEnds; j >= 0; j--) {
                    int least = i == ends && j == otherEnds ? 0 : FAR;
                    if (i < ends) {
                        least = Math.min(least, sums[i + 1][j] + one.itemsIn(i));
                    }
                    if (j < otherEnds) {
                        least = Math.min(least, sums[i][j + 1] + other.itemsIn(j));
                    }
                    if (i < ends && j < otherEnds) {
                        least = Math.min(least, sums[i + 1][j + 1] + lineCost[i][j]);
                    }
                    sums[i][j] = least;
                }
            }
        }

        /** Weighs all first LINES and all last LINES of an elder, by the cut of the child. */
        private void weighParts(int slot, Rhyme elder, Rhyme child) {
            if (!isSlot(slot)) {
                return;
            }
            weighLines(elder, child);
            sumForward(elder, child);
            takeLeast(elder, child, ahead[slot]);
            sumBackward(elder, child);
            takeLeast(elder, child, behind[slot]);
        }

        private void takeLeast(Rhyme elder, Rhyme child, int[] least) {
            for (int cut = 0; cut <= child.lines && cut < least.length; cut++) {
                least[cut] = sums[0][cut];
                for (int i = 1; i <= elder.lines && i <= Rhyme.LINES; i++) {
                    least[cut] = Math.min(least[cut], sums[i][cut]);
                }
            }
        }

        private int mixtureCost(int a, int b, int cut) {
            if (!isSlot(a) || !isSlot(b) || cut < 0 || cut > Rhyme.LINES) {
                return NONE;
            }
            return ahead[a][cut] + behind[b][cut];
        }

        /** The first cut with the least cost; NONE of a child of one LINE. */
        private int bestCut(int a, int b, int lines) {
            int best = NONE;
            for (int cut = 1; cut < lines; cut++) {
                if (best == NONE || mixtureCost(a, b, cut) < mixtureCost(a, b, best)) {
                    best = cut;
                }
            }
            return best;
        }
    }
}
