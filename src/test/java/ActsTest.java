/** Promises 11 to 17 and 22 to 24: acts, why they are not done, what is undone, who lied, what is due. */
public final class ActsTest {
    private static final Check CHECK = new Check();
    private static final String VALLEY = "ridge 10;wheat 10;hill a 0 0;hill b 5 0;hill c 15 0;"
        + "man m a 9 2;man n b 0 1;man o b 1 1;man p c 9 1;old o;flight 1 1 2 1 0 4 6 0;flight 2 0;";

    public static void main(String[] args) {
        coming();
        moving();
        swearing();
        calling();
        sharing();
        halves();
        lastYear();
        undoing();
        wrong();
        CHECK.end();
    }

    private static CuckooShares at(int hour) {
        CuckooShares x = Check.valleyOf(VALLEY);
        x.comes(0);
        if (hour > 0) {
            x.hours(hour);
        }
        return x;
    }

    private static void coming() {
        CuckooShares x = Check.valleyOf(VALLEY);
        CHECK.due("hours(3) ahead of any FLIGHT", x.hours(3), 3);
        CHECK.due("no CALL is PAST", x.now(3), 0);
        CHECK.due("comes(0)", x.comes(0), 0);
        CHECK.due("now(1)", x.now(1), 0);
        CHECK.due("HOUR 3 stays", x.now(2), 3);
        CHECK.due("one CALL is PAST", x.now(3), 1);
        CHECK.due("comes(1)", x.comes(1), 1);
        CHECK.due("comes(0) again", x.comes(0), 1);
        CHECK.due("comes(2)", x.comes(2), -1);
        CHECK.due("hours(1)", x.hours(1), 4);
        CHECK.due("two CALLS are PAST", x.now(3), 2);
        CHECK.due("hours(99)", x.hours(99), 99);
        CHECK.due("hours(1)", x.hours(1), 99);
        CHECK.due("hours(100)", x.hours(100), -1);
        CHECK.due("hours(0)", x.hours(0), -1);
        CHECK.due("now(2)", x.now(2), 99);
    }

    private static void moving() {
        CuckooShares x = Check.valleyOf(VALLEY);
        CHECK.due("he is there", x.move(0, 0), 1);
        CHECK.due("he moves", x.move(0, 1), 0);
        CHECK.due("hill(1, 4)", x.hill(1, 4), 7);
        CHECK.due("hill(0, 4)", x.hill(0, 4), 0);
        CHECK.due("man(0, 0)", x.man(0, 0), 1);
        x.comes(0);
        CHECK.due("ahead of the first CALL", x.move(0, 0), 0);
        x.hours(1);
        CHECK.due("just ahead of it", x.move(0, 2), 0);
        x.hours(1);
        CHECK.due("behind it", x.move(0, 1), 2);
        CHECK.due("he is there, ahead of that", x.move(0, 2), 1);
        CuckooShares y = Check.valleyOf(VALLEY);
        y.comes(1);
        y.hours(99);
        CHECK.due("a FLIGHT without CALLS", y.move(0, 1), 0);
    }

    private static void swearing() {
        CuckooShares x = Check.valleyOf(VALLEY);
        CHECK.due("no FLIGHT has come", x.swear(0, 0), 2);
        x.comes(0);
        x.hours(2);
        CHECK.due("not PAST", x.swear(0, 1), 2);
        CHECK.due("no such CALL of it", x.swear(0, 9), 2);
        CHECK.due("swear(0, 0)", x.swear(0, 0), 0);
        CHECK.due("a coin less", x.man(0, 2), 1);
        CHECK.due("man(0, 5)", x.man(0, 5), 0);
        CHECK.due("again", x.swear(0, 0), 1);
        CHECK.due("again, of one not PAST", x.swear(0, 1), 1);
        CHECK.due("a lie", x.swear(1, 0), 0);
        CHECK.due("lied()", x.lied(), 2);
        CHECK.due("now(4)", x.now(4), 3);
        CHECK.due("now(5)", x.now(5), 3);
        CuckooShares y = Check.valleyOf("hill a 0 0;man m a 9 0;flight 1 1 0 0 0;");
        y.comes(0);
        CHECK.due("no coin, not PAST", y.swear(0, 1), 2);
        CHECK.due("no coin", y.swear(0, 0), 3);
        CHECK.due("lied()", y.lied(), 0);
    }

    private static void calling() {
        CuckooShares x = at(2);
        x.swear(1, 0);
        CHECK.due("nearer(1): m", x.nearer(1), 1);
        CHECK.due("nearer(0): he has not sworn", x.nearer(0), 0);
        CHECK.due("just as FAR", x.accuse(2, 1), 2);
        CHECK.due("farther", x.accuse(3, 1), 2);
        CHECK.due("not sworn", x.accuse(0, 2), 1);
        CHECK.due("due(1)", x.due(1), 10);
        CHECK.due("due(0)", x.due(0), 0);
        CHECK.due("m calls n", x.accuse(0, 1), 0);
        CHECK.due("n has not sworn", x.man(1, 5), -1);
        CHECK.due("n's coin is gone", x.man(1, 2), 0);
        CHECK.due("m has his coins", x.man(0, 2), 2);
        CHECK.due("due(1)", x.due(1), 0);
        CHECK.due("lied()", x.lied(), 0);
        CHECK.due("n has no coin", x.swear(1, 0), 3);
        x.hours(2);
        x.swear(0, 1);
        x.swear(2, 1);
        CHECK.due("no coin", x.accuse(1, 0), 4);
        CHECK.due("the same CALL, ahead of no coin", x.accuse(2, 0), 3);
        CHECK.due("due(0)", x.due(0), 7);
        CHECK.due("due(2)", x.due(2), 2);

        CuckooShares y = at(4);
        y.swear(0, 1);
        CHECK.due("nobody could strike a true oath", y.nearer(0), 0);
        CHECK.due("n calls a true oath", y.accuse(1, 0), 0);
        CHECK.due("n has a coin less", y.man(1, 2), 0);
        CHECK.due("m has sworn", y.man(0, 5), 1);

        CuckooShares z = at(4);
        z.swear(3, 1);
        CHECK.due("nearer(3): m, n, o", z.nearer(3), 7);
        z.swear(2, 1);
        CHECK.due("o has sworn to the same CALL", z.nearer(3), 3);
        z.swear(1, 0);
        CHECK.due("n has no coin", z.nearer(3), 1);
        CHECK.due("lied()", z.lied(), 10);
    }

    private static void sharing() {
        CuckooShares x = Check.valleyOf(VALLEY);
        CHECK.due("no FLIGHT", x.share(), 1);
        CHECK.due("due(0)", x.due(0), -1);
        x.comes(0);
        x.hours(4);
        x.swear(0, 1);
        x.swear(2, 1);
        x.swear(3, 0);
        CHECK.due("in valley 1 the first CALL is another one", x.due(3), 10);
        CHECK.due("share()", x.share(), 0);
        int[] stores = {7, 0, 2, 10};
        for (int m = 0; m < 4; m++) {
            CHECK.due("store of " + m, x.man(m, 6), stores[m]);
            CHECK.due("oath of " + m, x.man(m, 5), -1);
        }
        int[] nows = {1, -1, 0, 0, 0, 2, 19};
        for (int what = 0; what < 7; what++) {
            CHECK.due("now(" + what + ")", x.now(what), nows[what]);
        }
        CHECK.due("share() again", x.share(), 1);
        x.comes(0);
        x.hours(4);
        x.swear(0, 0);
        CHECK.due("due(0): the share alone", x.due(0), 10);
        x.swear(1, 1);
        CHECK.due("a later CALL has none", x.due(1), 0);
        CHECK.due("share()", x.share(), 0);
        CHECK.due("stores go on", x.man(0, 6), 17);
        x.comes(1);
        CHECK.due("nobody has sworn", x.share(), 0);
        CHECK.due("now(6)", x.now(6), 29);
        CHECK.due("now(0)", x.now(0), 3);
    }

    private static void halves() {
        String text = "ridge 5;wheat 9;hill h 0 0;hill g 9 0;man m h 9 9;man n g 9 9;flight 1 20";
        for (int k = 0; k < 10; k++) {
            text += " " + k + " 0 0";
        }
        for (int k = 0; k < 10; k++) {
            CuckooShares x = Check.valleyOf(text + ";");
            x.comes(0);
            x.hours(9);
            x.swear(0, k);
            x.swear(1, 8);
            CHECK.due("due(0) by CALL " + k, x.due(0), k == 8 ? 4 : 9);
            CHECK.due("due(1) by CALL 8", x.due(1), 4);
        }
    }

    private static void lastYear() {
        CuckooShares x = Check.valleyOf(VALLEY);
        x.drawn(40, 1);
        x.drawn(40, 1);
        CHECK.due("drawn", x.drawn(18, 1), 18);
        x.comes(0);
        CHECK.due("the 98th", x.share(), 0);
        CHECK.due("YEAR 99", x.now(0), 99);
        CHECK.due("share() without FLIGHT", x.share(), 1);
        x.comes(0);
        CHECK.due("share() then", x.share(), 2);
        CHECK.due("the FLIGHT stays", x.now(1), 0);
        CHECK.due("YEAR 99 stays", x.now(0), 99);
    }

    private static void undoing() {
        CuckooShares x = Check.valleyOf(VALLEY);
        CHECK.due("nothing to undo", x.undo(), -1);
        x.move(0, 1);
        x.comes(0);
        x.hours(4);
        x.swear(3, 1);
        x.accuse(0, 3);
        x.share();
        CHECK.due("not done: not undone", x.share(), 1);
        x.hours(0);
        x.drawn(41, 1);
        x.move(0, 1);
        x.comes(7);
        CHECK.due("YEAR 1", x.now(0), 1);
        CHECK.due("undo share", x.undo(), 5);
        CHECK.due("YEAR 0", x.now(0), 0);
        CHECK.due("p's oath is struck", x.man(3, 5), -1);
        CHECK.due("undo accuse", x.undo(), 4);
        CHECK.due("p has sworn", x.man(3, 5), 1);
        CHECK.due("undo swear", x.undo(), 3);
        CHECK.due("p has his coin", x.man(3, 2), 1);
        CHECK.due("undo hours", x.undo(), 2);
        CHECK.due("HOUR 0", x.now(2), 0);
        CHECK.due("undo comes", x.undo(), 1);
        CHECK.due("no FLIGHT", x.now(1), -1);
        CHECK.due("undo move", x.undo(), 0);
        CHECK.due("m is at home", x.man(0, 0), 0);
        CHECK.due("nothing more", x.undo(), -1);

        for (int i = 0; i < 9; i++) {
            x.hours(1);
        }
        for (int left = 7; left >= 0; left--) {
            CHECK.due("undo hours", x.undo(), left);
        }
        CHECK.due("8 are kept", x.undo(), -1);
        CHECK.due("the first hour stays", x.now(2), 1);

        x.drawn(3, 5);
        CHECK.due("undo drawn", x.undo(), 0);
        CHECK.due("YEAR 0", x.now(0), 0);
        CHECK.due("HOUR 1", x.now(2), 1);
        x.hours(1);
        Check.roll(x, "hour 1;comes 0;shares;", 0);
        CHECK.due("a ROLL that was judged is not undone", x.undo(), 0);
        CHECK.due("but the hour ahead of it", x.now(2), 1);
        Check.roll(x, "hour 1;comes 0;shares;", 1);
        CHECK.due("YEAR 1 by a ROLL", x.now(0), 1);
        CHECK.due("a ROLL that was lived is undone", x.undo(), 0);
        CHECK.due("YEAR 0", x.now(0), 0);
        CHECK.due("HOUR 1", x.now(2), 1);
        x.hours(1);
        Check.valley(x, VALLEY);
        CHECK.due("a new VALLEY has nothing to undo", x.undo(), -1);
        x.hours(5);
        Check.valley(x, "x");
        CHECK.due("one with a FAULT changes nothing", x.undo(), 0);
    }

    private static void wrong() {
        CuckooShares x = at(4);
        x.swear(0, 0);
        int[] none = {-1, 4, 10, Integer.MAX_VALUE, Integer.MIN_VALUE};
        for (int n : none) {
            CHECK.due("comes(" + n + ")", x.comes(n), -1);
            CHECK.due("move(" + n + ", 0)", x.move(n, 0), -1);
            CHECK.due("move(0, " + n + ")", x.move(0, n), -1);
            CHECK.due("swear(" + n + ", 0)", x.swear(n, 0), -1);
            CHECK.due("accuse(" + n + ", 0)", x.accuse(n, 0), -1);
            CHECK.due("accuse(1, " + n + ")", x.accuse(1, n), -1);
            CHECK.due("accuse(" + n + ", " + n + ")", x.accuse(n, n), -1);
            CHECK.due("nearer(" + n + ")", x.nearer(n), -1);
            CHECK.due("due(" + n + ")", x.due(n), -1);
        }
        CHECK.due("move(0, 3)", x.move(0, 3), -1);
        CHECK.due("swear(1, -1)", x.swear(1, -1), -1);
        CHECK.due("swear(1, 10)", x.swear(1, 10), -1);
        CHECK.due("accuse(0, 0)", x.accuse(0, 0), -1);
        CHECK.due("hours(-1)", x.hours(-1), -1);
        CHECK.due("hours(MAX)", x.hours(Integer.MAX_VALUE), -1);
        CHECK.due("undo(): three were done", x.undo(), 2);
    }
}
