import java.nio.charset.StandardCharsets;
import java.util.NoSuchElementException;

/** Compares answers with those that are due, and puts texts on a tape. */
final class Check {
    /** Stands for a NoSuchElementException where an answer is told as a number. */
    static final long THROWN = -999;

    private final String name;
    private String sentence = "";
    private int wrong;
    private int seen;

    Check(String name) {
        this.name = name;
    }

    /** The answers that follow are due by these words of a promise (or of the Terms). */
    void by(int promise, String words) {
        sentence = "[" + promise + ": " + words + "] ";
        due("is in the document", Sentences.has(promise, words), true);
    }

    void due(String what, long got, long want) {
        seen++;
        if (got != want) {
            wrong++;
            if (wrong <= 40) {
                System.out.println(name + ": " + sentence + what + " answered " + got + ", due is "
                    + want);
            }
        }
    }

    void due(String what, boolean got, boolean want) {
        due(what, got ? 1 : 0, want ? 1 : 0);
    }

    boolean isWrong() {
        return wrong > 0;
    }

    void close() {
        System.out.println(name + ": " + seen + " answers, " + wrong + " not as due");
        if (wrong > 0 || seen == 0) {
            System.exit(1);
        }
    }

    /** The tape has these bytes alone. */
    static void put(RhymeRing x, int... bytes) {
        x.end(0);
        int[] row = new int[(bytes.length + 19) / 20 * 20];
        System.arraycopy(bytes, 0, row, 0, bytes.length);
        for (int i = 0; i < row.length; i += 20) {
            x.feed(number(row, i), number(row, i + 4), number(row, i + 8), number(row, i + 12),
                number(row, i + 16));
        }
        if (!x.end(bytes.length)) {
            throw new IllegalStateException("the tape does not take " + bytes.length + " bytes");
        }
    }

    static void put(RhymeRing x, String text) {
        byte[] bytes = text.getBytes(StandardCharsets.ISO_8859_1);
        int[] row = new int[bytes.length];
        for (int i = 0; i < row.length; i++) {
            row[i] = bytes[i] & 255;
        }
        put(x, row);
    }

    private static int number(int[] row, int i) {
        return row[i] << 24 | row[i + 1] << 16 | row[i + 2] << 8 | row[i + 3];
    }

    static int tongue(RhymeRing x, String text) {
        put(x, text);
        return x.tongue();
    }

    static int yard(RhymeRing x, String text) {
        put(x, text);
        return x.yard();
    }

    static int rhyme(RhymeRing x, int s, String text) {
        put(x, text);
        return x.rhyme(s);
    }

    static int people(RhymeRing x, String text) {
        put(x, text);
        return x.people();
    }

    static int answers(RhymeRing x, String text) {
        put(x, text);
        return x.answers();
    }

    static int beats(RhymeRing x, String text) {
        put(x, text);
        return x.beats();
    }

    static int strong(RhymeRing x, String text) {
        put(x, text);
        return x.strong();
    }

    static int play(RhymeRing x, int... told) {
        put(x, told);
        return x.play();
    }

    static int holds(RhymeRing x, int... record) {
        put(x, record);
        return x.holds();
    }

    static int explain(RhymeRing x, int... record) {
        put(x, record);
        return x.explain();
    }

    static long octet(RhymeRing x, int k) {
        try {
            return x.octet(k);
        } catch (NoSuchElementException e) {
            return THROWN;
        }
    }

    static long share(RhymeRing x, int p, int what) {
        try {
            return x.share(p, what);
        } catch (NoSuchElementException e) {
            return THROWN;
        }
    }

    /** All bytes of OUT as signs. */
    static String out(RhymeRing x) {
        StringBuilder signs = new StringBuilder();
        for (int k = 0; octet(x, k) != THROWN; k++) {
            signs.append(octet(x, k));
        }
        return signs.toString();
    }

    void dueOut(String what, RhymeRing x, String want) {
        due(what + " OUT " + out(x) + " for " + want, out(x).equals(want), true);
    }

    /** A fault-free text first, and then the place and the kind of the FAULT. */
    void dueFault(String what, RhymeRing x, int got, int place, int kind) {
        due(what + " place", got, -1 - place);
        due(what + " kind", x.fault(), kind);
    }
}
