/** Promises 40 and 41, with 5: a SENTENCE, its FAULTS, of whom it may be said. */
public final class SentenceTest {
    private static final Check CHECK = new Check();
    private static final String VALLEY = "ridge 10;wheat 10;hill a 0 0;hill b 5 0;hill c 15 0;"
        + "man m a 9 2;man n b 0 1;man o b 1 1;man p c 9 0;old o;deaf p m;flight 1 1 2 1 0 4 6 0;flight 2 0;";

    public static void main(String[] args) {
        faults();
        limits();
        meanings();
        lists();
        stays();
        CHECK.end();
    }

    private static void fault(String text, int place, int kind) {
        CuckooShares x = Check.valleyOf(VALLEY);
        CHECK.due("sentence() of " + text, Check.sentence(x, text), -1 - place);
        CHECK.due("fault() of " + text, x.fault(), kind);
        CHECK.due("the tape behind " + text, x.count(5), 0);
        CHECK.due("said(-1) behind " + text, x.said(-1), -1);
    }

    private static void ones(String text, int ones) {
        CuckooShares x = Check.valleyOf(VALLEY);
        CHECK.due("sentence() of " + text, Check.sentence(x, text), ones);
        CHECK.due("fault() of " + text, x.fault(), 0);
    }

    private static void said(CuckooShares x, String text, int men) {
        if (Check.sentence(x, text) < 1) {
            CHECK.due("sentence() of " + text, false, true);
        }
        CHECK.due("said(-1) of " + text, x.said(-1), Integer.bitCount(men));
        int k = 0;
        for (int m = 0; m < 8; m++) {
            if ((men >> m & 1) == 1) {
                CHECK.due("said(" + k + ") of " + text, x.said(k), m);
                k++;
            }
        }
        CHECK.due("said(" + k + ") of " + text, x.said(k), -1);
    }

    private static void faults() {
        fault("", 0, 1);
        fault("  ", 2, 1);
        fault("not", 3, 1);
        fault("old and", 7, 1);
        fault("old or ", 7, 1);
        fault("and old", 0, 1);
        fault("old old", 4, 1);
        fault("old;", 3, 1);
        fault("(old", 4, 1);
        fault("old)", 3, 1);
        fault("()", 1, 1);
        fault("m", 0, 1);
        fault("7", 0, 1);
        fault("on", 2, 1);
        fault("on 3", 3, 1);
        fault("on old", 3, 1);
        fault("on x", 3, 3);
        fault("on m", 3, 3);
        fault("coin", 4, 1);
        fault("coin 3", 5, 1);
        fault("coin =", 6, 1);
        fault("coin = old", 7, 1);
        fault("coin = 1000", 7, 1);
        fault("coin == 1", 6, 1);
        fault("coin <= 1", 6, 1);
        fault("old3", 0, 1);
        fault("hill", 0, 1);
        fault("(old or deaf and)", 16, 1);
    }

    private static void limits() {
        ones("old", 1);
        ones("not not(old)", 4);
        ones("coin<1 or store=999 and ear>0\nor number=7", 4);
        fault("coin<1or old", 5, 1);
        ones("coin<999", 1);
        String twenty = "old" + " and old".repeat(19);
        ones(twenty, 20);
        fault(twenty + " and old", 160, 4);
        fault(twenty + " and not old", 160, 4);
        fault(twenty + " and )", 160, 1);
        fault(twenty + " and m", 160, 1);
        ones("((((((( old )))))))", 8);
        fault("(((((((( old ))))))))", 9, 4);
        fault("(((((((((old", 8, 4);
        fault("(((((((()", 8, 1);
        ones("not ".repeat(7) + "old", 8);
        fault("not ".repeat(8) + "old", 32, 4);
        fault("not ".repeat(9) + "old", 32, 4);
        ones("((((((( old or deaf and on a )))))))", 10);
        ones("old" + " ".repeat(197), 1);
        fault("old" + " ".repeat(198), 200, 1);
        fault(" ".repeat(196) + "old and old", 200, 1);
        fault(" ".repeat(199) + "old", 200, 1);
        fault(" ".repeat(199) + "older", 199, 1);
        fault(" ".repeat(197) + "on x", 200, 1);
        fault(" ".repeat(196) + "on xx", 199, 3);
    }

    private static void meanings() {
        CuckooShares x = Check.valleyOf(VALLEY);
        said(x, "old", 4);
        said(x, "deaf", 8);
        said(x, "not old", 11);
        said(x, "on b", 6);
        said(x, "sworn", 0);
        said(x, "lied", 0);
        said(x, "heard", 0);
        said(x, "coin = 1", 6);
        said(x, "coin < 1", 8);
        said(x, "coin > 1", 1);
        said(x, "ear = 9", 9);
        said(x, "ear < 1", 2);
        said(x, "number > 0", 14);
        said(x, "number = 3", 8);
        said(x, "store = 0", 15);
        said(x, "old or deaf and on a", 4);
        said(x, "(old or deaf) and on b", 4);
        said(x, "deaf and on a or old", 4);
        said(x, "not old and not deaf", 3);
        said(x, "not (old or deaf)", 3);
        said(x, "not not old", 4);
        said(x, "number=0 or number=1 or number=2 and number=3", 3);
        x.comes(0);
        x.hours(2);
        CHECK.due("a hut that was thought of", x.hut(0) >= 0, true);
        said(x, "heard", 9);
        x.hut(0);
        said(x, "lied", 0);
        x.swear(1, 0);
        said(x, "sworn", 2);
        said(x, "lied", 2);
        said(x, "sworn and not heard", 2);
        x.hours(2);
        said(x, "heard", 15);
        said(x, "lied and heard", 2);
        x.swear(0, 0);
        x.share();
        said(x, "store > 4", 3);
        said(x, "store = 5 and coin = 0", 2);
        said(x, "heard or sworn or lied", 0);
        Check.sentence(x, "on a");
        CHECK.due("m is on a", x.said(-1), 1);
        x.move(1, 0);
        CHECK.due("it is said of what is so now", x.said(-1), 2);
    }

    private static void lists() {
        CuckooShares x = Check.valleyOf(VALLEY);
        CHECK.due("no SENTENCE", x.said(-1), -1);
        CHECK.due("no SENTENCE", x.said(0), -1);
        Check.sentence(x, "not old");
        CHECK.due("said(-1)", x.said(-1), 3);
        CHECK.due("said(2)", x.said(2), 3);
        CHECK.due("said(3)", x.said(3), -1);
        CHECK.due("said(-2)", x.said(-2), -1);
        CHECK.due("said(MIN)", x.said(Integer.MIN_VALUE), -1);
        CHECK.due("said(MAX)", x.said(Integer.MAX_VALUE), -1);
        CuckooShares empty = new CuckooShares();
        CHECK.due("of an empty VALLEY", Check.sentence(empty, "not old"), 2);
        CHECK.due("nobody", empty.said(-1), 0);
        CHECK.due("nobody", empty.said(0), -1);
    }

    private static void stays() {
        CuckooShares x = Check.valleyOf(VALLEY);
        Check.sentence(x, "old");
        CHECK.due("a FAULT", Check.sentence(x, "deaf or"), -8);
        CHECK.due("it stays", x.said(0), 2);
        x.hours(1);
        Check.sentence(x, "deaf");
        x.undo();
        CHECK.due("undo() leaves it", x.said(0), 3);
        Check.valley(x, "x");
        CHECK.due("a VALLEY with a FAULT leaves it", x.said(0), 3);
        Check.valley(x, VALLEY);
        CHECK.due("a new VALLEY has none", x.said(-1), -1);
    }
}
