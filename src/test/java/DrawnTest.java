/** Promises 36 and 37: years by draws. Two MEN on a; the first FLIGHT is heard on a alone, the second on b alone. */
public final class DrawnTest {
    private static final Check CHECK = new Check();
    private static final String VALLEY = "ridge 10;wheat 10;hill a 0 0;hill b 15 0;man m a 0 0;man n a 0 0;"
        + "flight 1 5 0 0 0;flight 3 5 0 15 0;";

    public static void main(String[] args) {
        years();
        moves();
        limits();
        odds();
        wrong();
        CHECK.end();
    }

    private static void so(String what, CuckooShares x, int... due) {
        int[] got = {x.now(0), x.man(0, 0), x.man(1, 0), x.man(0, 6), x.man(1, 6), x.now(1), x.now(2), x.now(4)};
        for (int i = 0; i < due.length; i++) {
            CHECK.due(what + ", " + i, got[i], due[i]);
        }
    }

    private static void years() {
        CuckooShares x = Check.valleyOf(VALLEY);
        CHECK.due("drawn(5, 0)", x.drawn(5, 0), 5);
        so("seed 0", x, 5, 1, 0, 25, 5, -1, 0, 0);
        CuckooShares y = Check.valleyOf(VALLEY);
        CHECK.due("drawn(5, 1)", y.drawn(5, 1), 5);
        so("seed 1", y, 5, 1, 1, 10, 20, -1, 0, 0);
        CuckooShares z = Check.valleyOf(VALLEY);
        CHECK.due("drawn(6, -1)", z.drawn(6, -1), 6);
        so("seed -1", z, 6, 0, 0, 15, 35, -1, 0, 0);
        CHECK.due("undo()", z.undo(), 0);
        so("undone", z, 0, 0, 0, 0, 0, -1, 0, 0);
        CHECK.due("drawn(1, 7)", z.drawn(1, 7), 1);
        so("seed 7", z, 1, 0, 0, 5, 5, -1, 0, 0);
    }

    private static void moves() {
        // With the seed -1 n moves to b in the first year, if he can.
        CuckooShares x = Check.valleyOf(VALLEY);
        x.comes(0);
        CHECK.due("a CALL is PAST", x.now(3), 1);
        CHECK.due("drawn(1, -1)", x.drawn(1, -1), 1);
        so("nobody moves", x, 1, 0, 0, 0, 0, -1, 0, 0);
        CuckooShares y = Check.valleyOf(VALLEY);
        y.hours(9);
        CHECK.due("drawn(1, -1)", y.drawn(1, -1), 1);
        so("n moves", y, 1, 0, 1, 0, 10, -1, 0, 0);
    }

    private static void limits() {
        CuckooShares x = Check.valleyOf(VALLEY);
        CHECK.due("drawn(0, 1)", x.drawn(0, 1), -1);
        CHECK.due("drawn(41, 1)", x.drawn(41, 1), -1);
        CHECK.due("drawn(-1, 1)", x.drawn(-1, 1), -1);
        CHECK.due("undo()", x.undo(), -1);
        CHECK.due("drawn(40, 1)", x.drawn(40, 1), 40);
        CHECK.due("drawn(40, 1)", x.drawn(40, 1), 40);
        CHECK.due("19 are left", x.drawn(40, 1), 19);
        int store = x.now(6);
        CHECK.due("none is left", x.drawn(40, 1), 0);
        CHECK.due("now(6)", x.now(6), store);
        CHECK.due("now(0)", x.now(0), 99);
        CHECK.due("undo(): the one that was 0 is not kept", x.undo(), 2);
        CHECK.due("now(0)", x.now(0), 80);
    }

    private static void odds() {
        int[] more = {0, 10, 20, 30};
        int[][] due = {{1, 9, 24}, {1, 4, 11}, {1, 4, 5}, {1, 1, 2}};
        int[] seeds = {1, 10, 30};
        CuckooShares x = Check.valleyOf(VALLEY);
        for (int w = 0; w < 4; w++) {
            for (int n = 0; n < 3; n++) {
                // These seeds go beyond the greatest int.
                CHECK.due("odds(0, " + more[w] + ", " + seeds[n] + ")", x.odds(0, more[w], seeds[n], 2147483640), due[w][n]);
            }
        }
        so("all stays", x, 0, 0, 0, 0, 0, -1, 0, 0);
        CHECK.due("nothing to undo", x.undo(), -1);
        CuckooShares y = Check.valleyOf("wheat 10;hill a 0 0;man m a 0 0;flight 1 0 0 0 0;");
        CHECK.due("5 years: more than 49", y.odds(0, 49, 30, 0), 30);
        CHECK.due("not more than 50", y.odds(0, 50, 30, 0), 0);
        y.drawn(40, 0);
        CHECK.due("more than now", y.odds(0, 49, 3, 0), 3);
        y.drawn(40, 0);
        y.drawn(17, 0);
        CHECK.due("two years are left", y.odds(0, 19, 3, 0), 3);
        CHECK.due("no more", y.odds(0, 20, 3, 0), 0);
    }

    private static void wrong() {
        CuckooShares x = Check.valleyOf(VALLEY);
        CHECK.due("no such MAN", x.odds(2, 0, 1, 0), -1);
        CHECK.due("no such MAN", x.odds(-1, 0, 1, 0), -1);
        CHECK.due("w below 0", x.odds(0, -1, 1, 0), -1);
        CHECK.due("w 1000", x.odds(0, 1000, 1, 0), -1);
        CHECK.due("w 999", x.odds(0, 999, 1, 0), 0);
        CHECK.due("no seeds", x.odds(0, 0, 0, 0), -1);
        CHECK.due("31 seeds", x.odds(0, 0, 31, 0), -1);
        CuckooShares noFlights = Check.valleyOf("hill a 0 0;man m a 0 0;");
        CHECK.due("odds without FLIGHTS", noFlights.odds(0, 0, 1, 0), -1);
        CHECK.due("drawn without FLIGHTS", noFlights.drawn(1, 0), -1);
        CHECK.due("drawn without HILLS", Check.valleyOf("flight 1 1;").drawn(1, 0), -1);
        CHECK.due("drawn without MEN", Check.valleyOf("hill h 1 1;flight 1 1;").drawn(3, 0), 3);
    }
}
