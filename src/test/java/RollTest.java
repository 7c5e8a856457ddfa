/** Promises 38 and 39, with 5: a ROLL, its FAULTS, what is WRONG in it. */
public final class RollTest {
    private static final Check CHECK = new Check();
    private static final String VALLEY = "ridge 10;wheat 10;hill a 0 0;hill b 5 0;hill c 15 0;"
        + "man m a 9 2;man n b 0 1;man o b 1 1;man p c 9 0;old o;flight 1 1 2 1 0 4 6 0;flight 2 0;";

    public static void main(String[] args) {
        faults();
        limits();
        judged();
        lived();
        wrong();
        another();
        CHECK.end();
    }

    private static void fault(String text, int place, int kind) {
        CuckooShares x = Check.valleyOf(VALLEY);
        CHECK.due("roll(1) of " + text, Check.roll(x, text, 1), -2 - place);
        CHECK.due("fault() of " + text, x.fault(), kind);
        CHECK.due("the tape behind " + text, x.count(5), 0);
        CHECK.due("rolled(0) behind " + text, x.rolled(0), -1);
        CHECK.due("undo() behind " + text, x.undo(), -1);
        CHECK.due("hours behind " + text, x.now(2), 0);
    }

    private static void why(String text, int line, int reason) {
        CuckooShares x = Check.valleyOf(VALLEY);
        CHECK.due("roll(0) of " + text, Check.roll(x, text, 0), line);
        CHECK.due("fault() of " + text, x.fault(), 0);
        CHECK.due("rolled(0) of " + text, x.rolled(0), reason);
        if (line >= 0) {
            CHECK.due("rolled(1) of " + text, x.rolled(1), line);
        }
    }

    private static void faults() {
        fault("hour 1", 6, 1);
        fault("hour;", 4, 1);
        fault(";", 0, 1);
        fault("hour 1;;", 7, 1);
        fault("hill a 1 1;", 0, 1);
        fault("moves a;", 0, 1);
        fault("m;", 1, 1);
        fault("m hour 1;", 2, 1);
        fault("m moves;", 7, 1);
        fault("m moves on;", 8, 1);
        fault("m swears n;", 9, 1);
        fault("m calls 1;", 8, 1);
        fault("shares 1;", 7, 1);
        fault("comes m;", 6, 1);
        fault("hour 1;hour #;", 12, 1);
        fault("comes 4;", 6, 2);
        fault("hour 0;", 5, 2);
        fault("hour 100;", 5, 2);
        fault("hour 1000;", 5, 1);
        fault("m swears 10;", 9, 2);
        fault("a moves b;", 0, 3);
        fault("x moves b;", 0, 3);
        fault("m moves n;", 8, 3);
        fault("m moves x;", 8, 3);
        fault("m calls a;", 8, 3);
        fault("m calls x;", 8, 3);
    }

    private static void limits() {
        String forty = "hour 1;".repeat(40);
        why(forty, -1, 0);
        fault(forty + "hour 1;", 280, 4);
        fault(forty + "m", 280, 4);
        fault(forty + "shares", 280, 4);
        fault(forty + "x moves a;", 280, 3);
        fault(forty + "a moves a;", 280, 3);
        fault(forty + "on moves a;", 280, 1);
        fault(forty + ";", 280, 1);
        why("hour 1;" + " ".repeat(393), -1, 0);
        fault("hour 1;" + " ".repeat(394), 400, 1);
        fault(" ".repeat(394) + "hour 99;", 400, 1);
        fault(" ".repeat(394) + "hour 100;", 399, 2);
        fault(" ".repeat(399) + "shares;", 400, 1);
        fault(" ".repeat(399) + "sharers;", 399, 3);
        fault(" ".repeat(400) + "x", 400, 1);
    }

    private static void judged() {
        CuckooShares x = Check.valleyOf(VALLEY);
        for (int what = -1; what < 5; what++) {
            CHECK.due("rolled(" + what + ") ahead of any", x.rolled(what), -1);
        }
        x.hours(3);
        String text = "comes 0;hour 9;m swears 1;o swears 1;shares;comes 1;shares;hour 1;";
        CHECK.due("roll(0)", Check.roll(x, text, 0), -1);
        int[] rolled = {0, 8, 2, 9};
        for (int what = 0; what < 4; what++) {
            CHECK.due("rolled(" + what + ")", x.rolled(what), rolled[what]);
        }
        CHECK.due("rolled(4)", x.rolled(4), -1);
        CHECK.due("rolled(-1)", x.rolled(-1), -1);
        CHECK.due("the YEAR stays", x.now(0), 0);
        CHECK.due("the HOUR stays", x.now(2), 3);
        CHECK.due("no FLIGHT", x.now(1), -1);
        CHECK.due("stores stay", x.now(6), 0);
        CHECK.due("coins stay", x.now(5), 4);
        Check.roll(x, "hour", 0);
        CHECK.due("rolled(1) stays by a FAULT", x.rolled(1), 8);
        CHECK.due("an empty one", Check.roll(x, "", 0), -1);
        CHECK.due("rolled(1)", x.rolled(1), 0);
        CHECK.due("rolled(3)", x.rolled(3), 0);
    }

    private static void lived() {
        CuckooShares x = Check.valleyOf(VALLEY);
        String text = "n moves a;comes 0;hour 2;n swears 0;m swears 0;shares;comes 0;hour 4;n swears 1;m calls n;";
        CHECK.due("n has no coin more", Check.roll(x, text, 1), 8);
        int[] rolled = {23, 8, 1, 10};
        for (int what = 0; what < 4; what++) {
            CHECK.due("rolled(" + what + ")", x.rolled(what), rolled[what]);
        }
        CHECK.due("YEAR 1", x.now(0), 1);
        CHECK.due("HOUR 4", x.now(2), 4);
        CHECK.due("a FLIGHT has come", x.now(1), 0);
        CHECK.due("n is on a", x.man(1, 0), 0);
        CHECK.due("n's store", x.man(1, 6), 5);
        CHECK.due("m's store", x.man(0, 6), 5);
        CHECK.due("one ROLL, one undo", x.undo(), 0);
        CHECK.due("YEAR 0", x.now(0), 0);
        CHECK.due("n is on b", x.man(1, 0), 1);
        CHECK.due("rolled(0) stays", x.rolled(0), 23);
        CHECK.due("now by what was there ahead of it", x.drawn(2, 5), 2);
        int stores = x.now(6);
        CHECK.due("roll(1)", Check.roll(x, "comes 0;hour 4;m swears 1;shares;", 1), -1);
        CHECK.due("by how much all stores are more", x.rolled(3), x.now(6) - stores);
        CHECK.due("the YEAR then", x.rolled(2), 3);
    }

    private static void wrong() {
        why("comes 3;", 0, 9);
        why("comes 1;comes 3;", 1, 9);
        why("comes 1;comes 0;", 1, 1);
        why("hour 1;m moves a;", 1, 11);
        why("comes 0;hour 2;m moves b;", 2, 12);
        why("m swears 0;", 0, 22);
        why("comes 0;hour 9;m swears 2;", 2, 22);
        why("comes 0;hour 9;m swears 1;m swears 1;", 3, 21);
        why("comes 0;hour 9;p swears 1;", 2, 23);
        why("m calls n;", 0, 31);
        why("m calls m;", 0, 39);
        why("comes 0;hour 9;n swears 0;p calls n;", 3, 32);
        why("comes 0;hour 9;n swears 0;o calls n;", 3, 32);
        why("comes 0;hour 9;n swears 0;m swears 0;m calls n;", 4, 33);
        why("comes 0;hour 9;m swears 1;n swears 0;n calls m;", 4, 34);
        why("comes 0;hour 9;n swears 0;m calls n;m calls n;", 4, 31);
        why("shares;", 0, 41);
        CuckooShares x = Check.valleyOf(VALLEY);
        x.drawn(40, 0);
        x.drawn(40, 0);
        x.drawn(19, 0);
        CHECK.due("YEAR 99", Check.roll(x, "comes 0;hour 5;shares;", 0), 2);
        CHECK.due("rolled(0)", x.rolled(0), 42);
    }

    private static void another() {
        CuckooShares x = Check.valleyOf(VALLEY);
        Check.valley(x, "hill a 21 0;");
        Check.put(x, "hour 5;");
        CHECK.due("roll(2)", x.roll(2), -1000);
        CHECK.due("roll(-1)", x.roll(-1), -1000);
        CHECK.due("roll(MIN)", x.roll(Integer.MIN_VALUE), -1000);
        CHECK.due("the tape stays", x.count(5), 7);
        CHECK.due("fault() stays", x.fault(), 2);
        CHECK.due("rolled(0) stays", x.rolled(0), -1);
        CHECK.due("roll(1)", x.roll(1), -1);
        CHECK.due("HOUR 5", x.now(2), 5);
        CHECK.due("fault()", x.fault(), 0);
    }
}
