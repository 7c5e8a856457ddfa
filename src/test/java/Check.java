import java.util.NoSuchElementException;

/** What the project's tests share: texts put on the tape, answers compared, a last word by exit code. */
final class Check {
    /** Stands for a call that threw NoSuchElementException. */
    static final long THROWS = Long.MIN_VALUE;

    interface Call {
        int answer();
    }

    private int wrong = 0;
    private int compared = 0;

    void due(String what, long got, long want) {
        compared++;
        if (got != want) {
            wrong++;
            System.out.println(what + " answered " + told(got) + ", due is " + told(want));
        }
    }

    void due(String what, boolean got, boolean want) {
        due(what, got ? 1 : 0, want ? 1 : 0);
    }

    void throwing(String what, Call call) {
        due(what, answer(call), THROWS);
    }

    static long answer(Call call) {
        try {
            return call.answer();
        } catch (NoSuchElementException e) {
            return THROWS;
        }
    }

    private static String told(long answer) {
        return answer == THROWS ? "NoSuchElementException" : Long.toString(answer);
    }

    /** The tape is this text then. */
    static void put(CuckooShares x, String text) {
        x.end(0);
        for (int from = 0; from < text.length(); from += 20) {
            x.feed(word(text, from), word(text, from + 4), word(text, from + 8), word(text, from + 12),
                word(text, from + 16));
        }
        x.end(text.length());
    }

    private static int word(String text, int from) {
        int word = 0;
        for (int i = from; i < from + 4; i++) {
            word = word << 8 | (i < text.length() ? text.charAt(i) & 255 : 0);
        }
        return word;
    }

    static CuckooShares valleyOf(String text) {
        CuckooShares x = new CuckooShares();
        put(x, text);
        if (x.valley() < 0) {
            throw new IllegalStateException("a test's VALLEY has a FAULT: " + text);
        }
        return x;
    }

    static int valley(CuckooShares x, String text) {
        put(x, text);
        return x.valley();
    }

    static int roll(CuckooShares x, String text, int lives) {
        put(x, text);
        return x.roll(lives);
    }

    static int sentence(CuckooShares x, String text) {
        put(x, text);
        return x.sentence();
    }

    static int whence(CuckooShares x, int... bytes) {
        StringBuilder text = new StringBuilder();
        for (int b : bytes) {
            text.append((char) b);
        }
        put(x, text.toString());
        return x.whence();
    }

    void end() {
        System.out.println(wrong == 0 ? compared + " answers are as due" : wrong + " of " + compared + " answers are not as due");
        if (wrong != 0) {
            System.exit(1);
        }
    }
}
