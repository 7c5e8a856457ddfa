import java.util.NoSuchElementException;

/** What the project's tests share: texts put on the tape, answers compared, a last word by exit code. */
final class Check {
    /** Stands for a call that threw NoSuchElementException. */
    static final long THROWS = Long.MIN_VALUE;
    static final int NONE = CuckooShares.NONE;
    /** Every WORD told in a VALLEY, a ROLL or a SENTENCE: none of them is a NAME. */
    static final String[] RESERVED = {
        "ridge", "wheat", "wind", "north", "east", "south", "west", "hill", "fall", "man", "old", "deaf", "needs",
        "flight", "comes", "hour", "moves", "swears", "calls", "shares", "or", "and", "not", "sworn", "lied", "on",
        "heard", "coin", "store", "ear", "number",
    };

    interface Call {
        int answer();
    }

    private int wrong = 0;
    private int compared = 0;
    private String sentence = "";

    /** The document's sentence that all is compared for from here on, told ahead of what is not as due. */
    void about(String words) {
        sentence = "\"" + words + "\": ";
    }

    void due(String what, long got, long want) {
        compared++;
        if (got != want) {
            wrong++;
            System.out.println(sentence + readable(what) + " answered " + told(got) + ", due is " + told(want));
        }
    }

    void due(String what, String got, String want) {
        compared++;
        if (!got.equals(want)) {
            wrong++;
            System.out.println(sentence + readable(what) + " is\n  " + got + ", due is\n  " + want);
        }
    }

    /** Texts under test hold any bytes: those that can't be printed are told by their numbers. */
    private static String readable(String what) {
        StringBuilder text = new StringBuilder();
        for (char sign : what.toCharArray()) {
            if (sign >= 32 && sign < 127) {
                text.append(sign);
            } else {
                text.append('{').append((int) sign).append('}');
            }
        }
        return text.toString();
    }

    void due(String what, boolean got, boolean want) {
        due(what, got ? 1 : 0, want ? 1 : 0);
    }

    void throwing(String what, Call call) {
        due(what, answer(call), THROWS);
    }

    static long answer(Call call) {
        try {
            return call.answer();
        } catch (NoSuchElementException e) {
            return THROWS;
        }
    }

    private static String told(long answer) {
        return answer == THROWS ? "NoSuchElementException" : Long.toString(answer);
    }

    /** The tape is this text then. */
    static void put(CuckooShares x, String text) {
        x.end(0);
        for (int from = 0; from < text.length(); from += 20) {
            x.feed(word(text, from), word(text, from + 4), word(text, from + 8), word(text, from + 12),
                word(text, from + 16));
        }
        x.end(text.length());
    }

    private static int word(String text, int from) {
        int word = 0;
        for (int i = from; i < from + 4; i++) {
            word = word << 8 | (i < text.length() ? text.charAt(i) & 255 : 0);
        }
        return word;
    }

    static CuckooShares valleyOf(String text) {
        CuckooShares x = new CuckooShares();
        put(x, text);
        if (x.valley() < 0) {
            throw new IllegalStateException("a test's VALLEY has a FAULT: " + text);
        }
        return x;
    }

    static int valley(CuckooShares x, String text) {
        put(x, text);
        return x.valley();
    }

    static int roll(CuckooShares x, String text, int lives) {
        put(x, text);
        return x.roll(lives);
    }

    static int sentence(CuckooShares x, String text) {
        put(x, text);
        return x.sentence();
    }

    static int whence(CuckooShares x, int... bytes) {
        StringBuilder text = new StringBuilder();
        for (int b : bytes) {
            text.append((char) b);
        }
        put(x, text.toString());
        return x.whence();
    }

    /** A VALLEY's FAULT, on a new object. */
    void valleyFault(String text, int place, int kind) {
        CuckooShares x = new CuckooShares();
        due("valley() of " + text, valley(x, text), -1 - place);
        due("fault() of " + text, x.fault(), kind);
    }

    /** A ROLL's FAULT, in a VALLEY. */
    void rollFault(String land, String text, int place, int kind) {
        CuckooShares x = valleyOf(land);
        due("roll(0) of " + text, roll(x, text, 0), -2 - place);
        due("fault() of " + text, x.fault(), kind);
    }

    /** A SENTENCE's FAULT, in a VALLEY. */
    void sentenceFault(String land, String text, int place, int kind) {
        CuckooShares x = valleyOf(land);
        due("sentence() of " + text, sentence(x, text), -1 - place);
        due("fault() of " + text, x.fault(), kind);
    }

    /** A VALLEY without a FAULT: how many LINES. */
    void valleyLines(String text, int lines) {
        CuckooShares x = new CuckooShares();
        due("valley() of " + text, valley(x, text), lines);
        due("fault() of " + text, x.fault(), 0);
    }

    /** All that is so, in one line: what a call that is refused must leave as it is. */
    static String allOf(CuckooShares x) {
        StringBuilder all = new StringBuilder();
        for (int what = 0; what < 6; what++) {
            all.append(x.count(what)).append(what < 5 ? "," : "; now ");
        }
        for (int what = 0; what < 7; what++) {
            all.append(x.now(what)).append(what < 6 ? "," : "; men");
        }
        for (int m = 0; m < x.count(1); m++) {
            for (int what = 0; what < 8; what++) {
                all.append(what == 0 ? " " : ",").append(x.man(m, what));
            }
        }
        all.append("; fault ").append(x.fault()).append("; said ").append(x.said(NONE)).append("; rolled");
        for (int what = 0; what < 4; what++) {
            all.append(" ").append(x.rolled(what));
        }
        all.append("; better ").append(told(answer(() -> x.better(0)))).append(" ").append(told(answer(() -> x.better(1))));
        return all.toString();
    }

    private static void note(StringBuilder all, Call call) {
        all.append(told(answer(call))).append(',');
    }

    /** What every question of the face answers, in one line; two objects in which all is alike answer alike. */
    static String allAnswers(CuckooShares x) {
        StringBuilder all = new StringBuilder(allOf(x)).append("; hills ");
        for (int i = 0; i < 9 * 5; i++) {
            int n = i;
            note(all, () -> x.hill(n / 5, n % 5));
        }
        all.append(" flights ");
        for (int i = 0; i < 5; i++) {
            int f = i;
            for (int j = 0; j < 4; j++) {
                int what = j;
                note(all, () -> x.flight(f, what));
            }
            note(all, () -> x.first(f, 0));
            note(all, () -> x.first(f, 1));
            note(all, () -> x.enough(f));
            note(all, () -> x.least(f));
        }
        all.append(" calls ");
        for (int i = 0; i < 4 * 11; i++) {
            int n = i;
            note(all, () -> x.call(n / 11, n % 11, 0));
            note(all, () -> x.call(n / 11, n % 11, 3));
            note(all, () -> x.who(n / 11, n % 11));
            note(all, () -> x.far(0, n / 11, n % 11));
        }
        all.append(" men ");
        for (int i = 0; i < 9; i++) {
            int m = i;
            note(all, () -> x.mean(m, 0));
            note(all, () -> x.mean(m, 1));
            note(all, () -> x.honest(m, 0));
            note(all, () -> x.due(m));
            note(all, () -> x.nearer(m));
            note(all, () -> x.beside(m));
            note(all, () -> x.hut(m));
            note(all, () -> x.better(0));
            note(all, () -> x.odds(m, 20, 3, 5));
        }
        all.append(" all ");
        note(all, x::lied);
        note(all, x::poor);
        note(all, x::crowded);
        note(all, () -> x.swaps(NONE));
        return all.toString();
    }

    void end() {
        System.out.println(wrong == 0 ? compared + " answers are as due" : wrong + " of " + compared + " answers are not as due");
        if (wrong != 0) {
            System.exit(1);
        }
    }
}
