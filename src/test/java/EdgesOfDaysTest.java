/** The Terms' parts 2 and 3, and what stands behind them: each sentence that names an edge. */
public final class EdgesOfDaysTest {
    // m and o sleep on a, n and p on b, five from it; o is poor, p is old.
    private static final String LAND = "wheat 10;hill a 0 0;hill b 5 0;man m a 0 2;man n b 0 2;man o a 9 0;man p b 9 2;old p;"
        + "flight 1 0 0 0 0 4 5 0 9 20 20;flight 2 0;";
    private static final Check CHECK = new Check();

    public static void main(String[] args) {
        far();
        noMoreFar();
        fall();
        wind();
        unlikeValleys();
        deaf();
        coming();
        past();
        hours();
        moving();
        swearing();
        calling();
        calledTruth();
        calledLie();
        noSharing();
        lastYear();
        halfAtEight();
        weights();
        firstSworn();
        yearOver();
        lied();
        honest();
        mean();
        beside();
        hut();
        whence();
        enough();
        least();
        drawnSeeds();
        drawnMoves();
        drawnYears();
        newValley();
        throwing();
        CHECK.end();
    }

    private static CuckooShares at(int hour) {
        CuckooShares x = Check.valleyOf(LAND);
        x.comes(0);
        if (hour > 0) {
            x.hours(hour);
        }
        return x;
    }

    // ---- who can HEAR

    private static void far() {
        CHECK.about("FAR: in X and in Y together");
        CuckooShares x = Check.valleyOf("hill a 0 0;hill b 20 20;hill c 7 3;man m a 0 0;man n b 0 0;man o c 0 0;"
            + "flight 1 0 0 0 0 1 20 20 2 3 7;");
        int[][] far = {{0, 40, 10}, {40, 0, 30}, {10, 30, 8}};
        for (int m = 0; m < 3; m++) {
            for (int k = 0; k < 3; k++) {
                CHECK.due("far(" + m + ", 0, " + k + ")", x.far(m, 0, k), far[m][k]);
            }
        }
    }

    private static void noMoreFar() {
        CHECK.about("if it is no more FAR than his EAR and LOUD together");
        int[][] both = {{0, 0}, {0, 5}, {5, 0}, {9, 10}, {3, 4}};
        for (int[] one : both) {
            int reach = one[0] + one[1];
            CuckooShares x = Check.valleyOf("hill a 0 0;man m a " + one[0] + " 0;flight 1 " + one[1] + " 0 " + reach + " 0 1 "
                + reach + " 1 2 0 " + reach + ";");
            CHECK.due("EAR " + one[0] + ", LOUD " + one[1] + ": just so", x.hears(0, 0, 0), 1);
            CHECK.due("EAR " + one[0] + ", LOUD " + one[1] + ": one more", x.hears(0, 0, 1), 0);
            CHECK.due("EAR " + one[0] + ", LOUD " + one[1] + ": by Y", x.hears(0, 0, 2), 1);
        }
        CuckooShares x = Check.valleyOf("hill a 0 0;man m a 9 0;flight 1 20 0 20 9 1 20 10;");
        CHECK.due("29", x.hears(0, 0, 0), 1);
        CHECK.due("30", x.hears(0, 0, 1), 0);
    }

    private static void fall() {
        CHECK.about("less the FALL of the HILL (0 without)");
        CuckooShares x = Check.valleyOf("hill a 0 0;hill b 0 0;fall b 4;man m a 5 0;man n b 5 0;flight 1 5 0 10 0 1 7 0 2 6 0;");
        CHECK.due("without a fall", x.hears(0, 0, 0), 1);
        CHECK.due("at 10", x.hears(1, 0, 0), 0);
        CHECK.due("at 7", x.hears(1, 0, 1), 0);
        CHECK.due("at 6", x.hears(1, 0, 2), 1);
        CuckooShares y = Check.valleyOf("hill a 3 3;fall a 1;man m a 0 0;flight 1 0 0 3 3;flight 1 1 0 3 3;");
        CHECK.due("a fall greater than EAR and LOUD", y.hears(0, 0, 0), 0);
        CHECK.due("a fall as great", y.hears(0, 1, 0), 1);
    }

    private static void wind() {
        CHECK.about("more the wind's N, if the HILL lies that WAY from the bird (north: a lesser Y; east: a greater X)");
        String[] ways = {"north", "east", "south", "west"};
        int[] eastOf = {0, 1, 0, -1};
        int[] southOf = {-1, 0, 1, 0};
        for (int wind = 0; wind < 4; wind++) {
            for (int lies = 0; lies < 4; lies++) {
                String hill = "hill a " + (10 + 5 * eastOf[lies]) + " " + (10 + 5 * southOf[lies]) + ";man m a 0 0;";
                CuckooShares x = Check.valleyOf("wind " + ways[wind] + " 2;" + hill + "flight 1 3 0 10 10;flight 1 2 0 10 10;flight 1 5 0 10 10;");
                CHECK.due("wind " + ways[wind] + ", HILL " + ways[lies], x.hears(0, 0, 0), wind == lies ? 1 : 0);
                CHECK.due("wind " + ways[wind] + ", HILL " + ways[lies] + ", one too far", x.hears(0, 1, 0), 0);
                CHECK.due("wind " + ways[wind] + ", HILL " + ways[lies] + ", loud", x.hears(0, 2, 0), 1);
                String near = "hill a " + (10 + eastOf[lies]) + " " + (10 + southOf[lies]) + ";man m a 0 0;";
                CuckooShares y = Check.valleyOf("wind " + ways[wind] + " 1;" + near + "flight 1 0 0 10 10;");
                CHECK.due("wind " + ways[wind] + ", HILL " + ways[lies] + " by one", y.hears(0, 0, 0), wind == lies ? 1 : 0);
            }
            CuckooShares z = Check.valleyOf("wind " + ways[wind] + " 9;hill a 10 10;fall a 1;man m a 0 0;flight 1 0 0 10 10;");
            CHECK.due("a HILL at the bird's place lies no way, wind " + ways[wind], z.hears(0, 0, 0), 0);
        }
        CuckooShares both = Check.valleyOf("wind north 2;hill a 12 8;man m a 0 0;flight 1 2 0 10 10;");
        CHECK.due("north and east of it", both.hears(0, 0, 0), 1);
    }

    private static void unlikeValleys() {
        CHECK.about("less 3, if bird and HILL are in unlike valleys");
        String men = "ridge 5;hill a 5 0;hill b 6 0;man m a 0 0;man n b 0 0;";
        CuckooShares x = Check.valleyOf(men + "flight 1 0 0 5 0 1 6 0;flight 1 1 0 5 0 1 6 0;flight 1 3 0 5 0 1 6 0;flight 1 4 0 5 0 1 6 0;");
        int[][] who = {{1, 2}, {1, 2}, {1, 2}, {3, 3}};
        for (int f = 0; f < 4; f++) {
            CHECK.due("who(" + f + ", 0)", x.who(f, 0), who[f][0]);
            CHECK.due("who(" + f + ", 1)", x.who(f, 1), who[f][1]);
        }
    }

    private static void deaf() {
        CHECK.about("Who is deaf hears what the other one can (from that one's HILL; as if not deaf himself)");
        CuckooShares x = Check.valleyOf("hill a 0 0;hill b 10 0;man m a 9 1;man n b 1 1;deaf m n;flight 1 1 0 0 0 1 12 0 2 13 0;");
        CHECK.due("beside him, but the other one is far", x.hears(0, 0, 0), 0);
        CHECK.due("as far as the other one's EAR goes", x.hears(0, 0, 1), 1);
        CHECK.due("his own EAR is of no matter", x.hears(0, 0, 2), 0);
        CHECK.due("the other one hears as ever", x.who(0, 1), 3);
        x.move(1, 0);
        CHECK.due("the other one has moved", x.who(0, 0), 3);
        CHECK.due("the other one has moved", x.who(0, 1), 0);
        CHECK.about("the other one, if he is deaf: nothing");
        CuckooShares y = Check.valleyOf("hill a 0 0;man m a 9 0;man n a 9 0;man o a 9 0;man p a 9 0;man q a 9 0;"
            + "deaf m n;deaf n o;deaf p q;deaf q p;flight 1 9 0 0 0;");
        CHECK.due("n by o, who hears; m by n, p and q by one another: nothing", y.who(0, 0), 6);
    }

    // ---- acts

    private static void coming() {
        CHECK.about("One FLIGHT COMES in a year: why not: 1 one has come");
        CuckooShares x = Check.valleyOf(LAND);
        CHECK.due("comes(1)", x.comes(1), 0);
        CHECK.due("comes(1) again", x.comes(1), 1);
        CHECK.due("comes(0)", x.comes(0), 1);
        CHECK.due("now(1)", x.now(1), 1);
        CHECK.due("share()", x.share(), 0);
        CHECK.due("comes(0) in the next year", x.comes(0), 0);
    }

    private static void past() {
        CHECK.about("HOUR 0 at first; CALLS whose HOUR is that of now or an earlier one, are PAST");
        CuckooShares x = Check.valleyOf("flight 1 0 0 0 0 5 0 0 99 0 0;flight 1 0;");
        CHECK.due("now(2)", x.now(2), 0);
        CHECK.due("no FLIGHT", x.now(3), 0);
        x.comes(0);
        CHECK.due("HOUR 0", x.now(3), 1);
        x.hours(4);
        CHECK.due("HOUR 4", x.now(3), 1);
        x.hours(1);
        CHECK.due("HOUR 5", x.now(3), 2);
        x.hours(93);
        CHECK.due("HOUR 98", x.now(3), 2);
        x.hours(1);
        CHECK.due("HOUR 99", x.now(3), 3);
        x.share();
        x.hours(99);
        CHECK.due("no FLIGHT", x.now(3), 0);
        x.comes(1);
        CHECK.due("a FLIGHT without CALLS", x.now(3), 0);
    }

    private static void hours() {
        CHECK.about("An HOUR goes: 99 at most (as many go as can)");
        CuckooShares x = new CuckooShares();
        CHECK.due("hours(98)", x.hours(98), 98);
        CHECK.due("hours(2)", x.hours(2), 99);
        CHECK.due("hours(99)", x.hours(99), 99);
        CHECK.due("now(2)", x.now(2), 99);
    }

    private static void moving() {
        CHECK.about("To MOVE to a HILL: 1 he is there; 2 a CALL is PAST");
        CuckooShares x = Check.valleyOf("hill a 0 0;hill b 5 0;man m a 0 0;flight 1 0 3 0 0;flight 1 0;");
        CHECK.due("he is there", x.move(0, 0), 1);
        x.comes(0);
        x.hours(2);
        CHECK.due("a CALL is to come", x.move(0, 1), 0);
        x.hours(1);
        CHECK.due("a CALL is PAST", x.move(0, 0), 2);
        CHECK.due("both: 1", x.move(0, 1), 1);
        x.share();
        CHECK.due("in the next year", x.move(0, 0), 0);
        x.hours(99);
        CHECK.due("no FLIGHT has come", x.move(0, 1), 0);
        x.comes(1);
        CHECK.due("a FLIGHT without CALLS", x.move(0, 0), 0);
    }

    private static void swearing() {
        CHECK.about("To SWEAR to a CALL: 1 he has sworn; 2 it is not PAST; 3 he has no coin: it costs 1");
        CuckooShares x = Check.valleyOf(LAND);
        x.hours(9);
        CHECK.due("no FLIGHT: 2", x.swear(0, 0), 2);
        CHECK.due("no FLIGHT, no coin: 2", x.swear(2, 0), 2);
        CuckooShares y = at(3);
        CHECK.due("a later CALL: 2", y.swear(0, 1), 2);
        CHECK.due("a later CALL, no coin: 2", y.swear(2, 1), 2);
        CHECK.due("no such CALL of the FLIGHT: 2", y.swear(0, 3), 2);
        CHECK.due("no coin: 3", y.swear(2, 0), 3);
        CHECK.due("swear(0, 0)", y.swear(0, 0), 0);
        CHECK.due("it costs 1", y.man(0, 2), 1);
        CHECK.due("he has sworn: 1", y.swear(0, 0), 1);
        CHECK.due("he has sworn, to one not PAST: 1", y.swear(0, 1), 1);
        CHECK.due("refused ones cost nothing", y.man(0, 2), 1);
        y.hours(1);
        CHECK.due("in its HOUR", y.swear(1, 1), 0);
        CuckooShares z = Check.valleyOf("hill a 0 0;man m a 0 1;flight 1 0 0 0 0;");
        z.comes(0);
        z.swear(0, 0);
        CHECK.due("the last coin", z.man(0, 2), 0);
        CHECK.due("he has sworn, no coin: 1", z.swear(0, 0), 1);
        CHECK.about("(whether he can have heard it or not)");
        CuckooShares w = at(0);
        CHECK.due("n can't have heard it", w.hears(1, 0, 0), 0);
        CHECK.due("swear(1, 0)", w.swear(1, 0), 0);
        CHECK.due("it costs 1, too", w.man(1, 2), 1);
    }

    private static void calling() {
        CHECK.about("To CALL an oath: 1 that one has not sworn; 2 he was not nearer (less FAR); 3 the same CALL; 4 no coin");
        CuckooShares x = at(4);
        CHECK.due("not sworn, as FAR: 1", x.accuse(0, 2), 1);
        CHECK.due("not sworn, no coin: 1", x.accuse(2, 1), 1);
        x.swear(1, 0);
        CHECK.due("as FAR: 2", x.accuse(3, 1), 2);
        x.swear(0, 0);
        CHECK.due("farther: 2", x.accuse(3, 0), 2);
        CHECK.due("farther, the same CALL: 2", x.accuse(1, 0), 2);
        CHECK.due("as FAR, no coin: 2", x.accuse(2, 0), 2);
        CHECK.due("nearer, the same CALL: 3", x.accuse(0, 1), 3);
        CHECK.due("nearer, no coin: 4", x.accuse(2, 1), 4);
        CuckooShares y = Check.valleyOf("hill a 0 0;hill b 5 0;man m a 0 1;man n b 0 1;flight 1 0 0 0 0;");
        y.comes(0);
        y.swear(0, 0);
        y.swear(1, 0);
        CHECK.due("nearer, the same CALL, no coin: 3", y.accuse(0, 1), 3);
        CuckooShares z = at(4);
        z.swear(1, 0);
        z.swear(0, 1);
        CHECK.due("nearer, sworn to another CALL", z.accuse(0, 1), 0);
    }

    private static void calledTruth() {
        CHECK.about("if the other one can have heard it, this one has a coin less");
        CuckooShares x = at(0);
        x.swear(3, 0);
        CHECK.due("p can have heard it", x.hears(3, 0, 0), 1);
        CHECK.due("m calls p", x.accuse(0, 3), 0);
        CHECK.due("m has a coin less", x.man(0, 2), 1);
        CHECK.due("p's oath stands", x.man(3, 5), 0);
        CHECK.due("p's coins", x.man(3, 2), 1);
        CHECK.due("m calls p again", x.accuse(0, 3), 0);
        CHECK.due("his last coin", x.man(0, 2), 0);
        CHECK.due("no coin", x.accuse(0, 3), 4);
        CuckooShares first = Check.valleyOf("hill a 0 0;hill b 5 0;man m b 9 2;man n a 0 2;flight 1 0 0 0 0;");
        first.comes(0);
        first.swear(0, 0);
        CHECK.due("the first MAN's oath, others having heard it, too", first.accuse(1, 0), 0);
        CHECK.due("stands", first.man(0, 5), 0);
        CHECK.due("n has a coin less", first.man(1, 2), 1);
    }

    private static void calledLie() {
        CHECK.about("else the other one's oath is struck: he has not sworn (his coin is gone)");
        CuckooShares x = at(0);
        x.swear(1, 0);
        CHECK.due("m calls n", x.accuse(0, 1), 0);
        CHECK.due("m's coins", x.man(0, 2), 2);
        CHECK.due("n has not sworn", x.man(1, 5), -1);
        CHECK.due("now(4)", x.now(4), 0);
        CHECK.due("n's coin is gone", x.man(1, 2), 1);
        CHECK.due("n can swear again", x.swear(1, 0), 0);
        CHECK.due("for his last coin", x.man(1, 2), 0);
        CuckooShares last = Check.valleyOf("hill a 0 0;hill b 5 0;man m a 9 2;man n b 0 2;flight 1 0 0 0 0;");
        last.comes(0);
        last.swear(1, 0);
        CHECK.due("the last MAN's oath", last.accuse(0, 1), 0);
        CHECK.due("is struck", last.man(1, 5), -1);
    }

    private static void noSharing() {
        CHECK.about("To SHARE: 1 no FLIGHT has come");
        CuckooShares x = Check.valleyOf(LAND);
        CHECK.due("share()", x.share(), 1);
        CHECK.due("the YEAR", x.now(0), 0);
        x.comes(1);
        CHECK.due("nobody has sworn", x.share(), 0);
        CHECK.due("nobody has any", x.now(6), 0);
        CHECK.due("share() again", x.share(), 1);
        CHECK.due("the YEAR", x.now(0), 1);
    }

    private static void lastYear() {
        CHECK.about("YEAR 1 more (99 at most: 2: there were as many)");
        CuckooShares x = Check.valleyOf(LAND);
        for (int year = 0; year < 98; year++) {
            x.comes(0);
            x.share();
        }
        x.comes(0);
        x.swear(0, 0);
        CHECK.due("the 99th", x.share(), 0);
        CHECK.due("YEAR 99", x.now(0), 99);
        CHECK.due("no FLIGHT: 1", x.share(), 1);
        x.comes(0);
        x.swear(0, 0);
        String all = Check.allOf(x);
        CHECK.due("as many", x.share(), 2);
        CHECK.due("all", Check.allOf(x), all);
    }

    private static String tenCalls() {
        StringBuilder text = new StringBuilder("flight 1 0");
        for (int k = 0; k < 10; k++) {
            text.append(' ').append(k).append(" 0 0");
        }
        return text.append(';').toString();
    }

    private static void halfAtEight() {
        CHECK.about("its wheat (half of it, cut, at CALL 8)");
        int[] wheats = {0, 1, 2, 9, 999};
        for (int wheat : wheats) {
            for (int k = 0; k < 10; k++) {
                CuckooShares x = Check.valleyOf("wheat " + wheat + ";hill a 0 0;man m a 0 1;" + tenCalls());
                x.comes(0);
                x.hours(9);
                x.swear(0, k);
                x.share();
                CHECK.due("wheat " + wheat + " by CALL " + k, x.man(0, 6), k == 8 ? wheat / 2 : wheat);
            }
        }
        CuckooShares y = Check.valleyOf("wheat 11;hill a 0 0;man m a 0 1;man n a 0 1;" + tenCalls());
        y.comes(0);
        y.hours(9);
        y.swear(0, 8);
        y.swear(1, 8);
        CHECK.due("half of 11 is 5, half of it 2", y.due(0), 2);
    }

    private static void weights() {
        CHECK.about("by weights of 3, of an old one 1: each has wheat times his weight by all weights (cut)");
        String names = "stuvwxyz";
        for (int men = 1; men <= 8; men++) {
            for (int old = 0; old <= men; old++) {
                StringBuilder text = new StringBuilder("wheat 100;hill a 0 0;flight 1 0 0 0 0;");
                for (int m = 0; m < men; m++) {
                    text.append("man ").append(names.charAt(m)).append(" a 0 1;");
                    if (m < old) {
                        text.append("old ").append(names.charAt(m)).append(';');
                    }
                }
                CuckooShares x = Check.valleyOf(text.toString());
                x.comes(0);
                for (int m = 0; m < men; m++) {
                    x.swear(m, 0);
                }
                int all = 3 * (men - old) + old;
                CHECK.due("the first of " + men + ", " + old + " old", x.due(0), (old > 0 ? 100 : 300) / all);
                CHECK.due("the last of " + men + ", " + old + " old", x.due(men - 1), (old < men ? 300 : 100) / all);
                CHECK.due("by HONEST ones, too", x.honest(0, 0), x.due(0));
            }
        }
    }

    private static void firstSworn() {
        CHECK.about("In each valley (by HILLS): the first CALL to which somebody there has sworn");
        CuckooShares x = Check.valleyOf("wheat 12;ridge 5;hill a 5 0;hill b 6 0;man m a 0 1;man n a 0 1;man o b 0 1;man p b 0 1;"
            + "man q a 0 1;flight 1 0 0 0 0 1 0 0 2 0 0;");
        x.comes(0);
        x.hours(2);
        x.swear(0, 1);
        x.swear(1, 2);
        x.swear(2, 2);
        x.swear(3, 0);
        int[] due = {12, 0, 0, 12, 0};
        for (int m = 0; m < 5; m++) {
            CHECK.due("due(" + m + ")", x.due(m), due[m]);
        }
        x.swear(4, 1);
        CHECK.due("two share", x.due(0), 6);
        CHECK.due("two share", x.due(4), 6);
        CHECK.due("share()", x.share(), 0);
        int[] stores = {6, 0, 0, 12, 6};
        for (int m = 0; m < 5; m++) {
            CHECK.due("store of " + m, x.man(m, 6), stores[m]);
        }
        CHECK.about("In each valley (by HILLS), as they are now, no question being asked ahead");
        CuckooShares y = Check.valleyOf("wheat 12;ridge 5;hill a 5 0;hill b 6 0;man m a 0 1;man n a 0 1;flight 1 0 0 0 0 1 0 0;");
        y.honest(0, 0);
        y.move(1, 1);
        y.comes(0);
        y.hours(1);
        y.swear(0, 0);
        y.swear(1, 1);
        CHECK.due("share()", y.share(), 0);
        CHECK.due("all of valley 0", y.man(0, 6), 12);
        CHECK.due("all of valley 1", y.man(1, 6), 12);
    }

    private static void yearOver() {
        CHECK.about("Then the year is over: YEAR 1 more, no FLIGHT, HOUR 0, nobody has sworn. (Stores go on.)");
        CuckooShares x = at(4);
        x.swear(0, 0);
        x.swear(1, 1);
        CHECK.due("share()", x.share(), 0);
        int[] nows = {1, -1, 0, 0, 0, 4, 10};
        for (int what = 0; what < 7; what++) {
            CHECK.due("now(" + what + ")", x.now(what), nows[what]);
        }
        CHECK.due("man(0, 5)", x.man(0, 5), -1);
        CHECK.due("man(1, 5)", x.man(1, 5), -1);
        x.comes(0);
        x.swear(0, 0);
        x.share();
        CHECK.due("stores go on", x.man(0, 6), 20);
        CHECK.due("coins do not come back", x.man(0, 2), 0);
    }

    // ---- what follows from days

    private static void lied() {
        CHECK.about("LIED: he has sworn to a CALL that he can't have heard");
        CuckooShares x = at(4);
        CHECK.due("nobody has sworn", x.lied(), 0);
        x.swear(0, 0);
        CHECK.due("the truth", x.lied(), 0);
        x.swear(1, 0);
        CHECK.due("a lie", x.lied(), 2);
        CHECK.due("it counts for the share", x.due(1), 5);
        CHECK.due("p swears the truth", x.swear(3, 1), 0);
        CHECK.due("n alone", x.lied(), 2);
        CuckooShares y = at(4);
        y.swear(0, 1);
        CHECK.due("the first MAN's lie", y.lied(), 1);
        x.share();
        CHECK.due("the year is over", x.lied(), 0);
    }

    private static void honest() {
        CHECK.about("HONEST: each swears to the first CALL that anybody in his valley can HEAR, if he can; shares so");
        CuckooShares x = Check.valleyOf("wheat 12;ridge 9;hill a 0 0;hill b 8 0;hill c 20 0;man m a 0 0;man n b 0 0;man o c 0 0;man p c 0 0;old p;"
            + "flight 1 0 0 10 0 1 8 0 2 0 0 3 20 0;flight 1 0 0 0 0;flight 1 0;");
        int[][] shares = {{0, 12, 9, 3}, {12, 0, 0, 0}, {0, 0, 0, 0}};
        for (int f = 0; f < 3; f++) {
            for (int m = 0; m < 4; m++) {
                CHECK.due("honest(" + m + ", " + f + ")", x.honest(m, f), shares[f][m]);
            }
        }
        CHECK.about("HONEST: as all HILLS are");
        x.move(0, 1);
        CHECK.due("m has moved to n", x.honest(0, 0), 6);
    }

    private static void mean() {
        CHECK.about("MEAN: of all FLIGHTS by their CHANCES; all fractions in least terms");
        String men = "wheat 10;hill a 0 0;hill b 9 0;man m a 0 0;man n b 0 0;man o a 0 0;";
        CuckooShares x = Check.valleyOf(men + "flight 2 0 0 0 0;flight 9 0 0 9 0;flight 3 0;");
        int[][] means = {{5, 7}, {45, 7}, {5, 7}};
        for (int m = 0; m < 3; m++) {
            CHECK.due("mean(" + m + ", 0)", x.mean(m, 0), means[m][0]);
            CHECK.due("mean(" + m + ", 1)", x.mean(m, 1), means[m][1]);
        }
        CuckooShares y = Check.valleyOf(men + "flight 9 0;flight 9 0 0 20 20;");
        CHECK.due("nothing: 0 above", y.mean(0, 0), 0);
        CHECK.due("nothing: 1 below", y.mean(0, 1), 1);
        CuckooShares z = Check.valleyOf("wheat 0;hill a 0 0;man m a 0 0;flight 9 0 0 0 0;");
        CHECK.due("wheat 0: 1 below", z.mean(0, 1), 1);
        CuckooShares w = Check.valleyOf("wheat 999;hill a 0 0;man m a 0 0;flight 9 0 0 0 0;flight 9 0 0 0 0;flight 9 0 0 0 0;flight 8 0 0 0 0;");
        CHECK.due("999 by all: 999 above", w.mean(0, 0), 999);
        CHECK.due("1 below", w.mean(0, 1), 1);
        CuckooShares v = Check.valleyOf("wheat 999;hill a 0 0;man m a 0 0;flight 9 0 0 0 0;flight 9 0 0 0 0;flight 9 0 0 0 0;flight 8 0;");
        CHECK.due("no less terms than 26973", v.mean(0, 0), 26973);
        CHECK.due("35 below", v.mean(0, 1), 35);
    }

    private static void beside() {
        CHECK.about("BESIDE: the HILL from which a MAN's MEAN is greatest, all others as they are (of like ones the first)");
        String men = "wheat 10;hill a 0 0;hill b 20 0;hill c 10 0;man m b 0 0;man n a 9 0;";
        CuckooShares x = Check.valleyOf(men + "flight 1 0 0 10 0;flight 2 0;");
        CHECK.due("another one's HILL is of no matter", x.beside(0), 2);
        CHECK.due("10 by 1 of 3", x.better(0), 10);
        CHECK.due("3 below", x.better(1), 3);
        CHECK.due("he stays where he is", x.man(0, 0), 1);
        CuckooShares y = Check.valleyOf(men + "flight 1 0;");
        CHECK.due("of like ones the first", y.beside(0), 0);
        CHECK.due("of like ones the first, though it is not his own", y.man(0, 0), 1);
        CuckooShares z = Check.valleyOf(men + "flight 1 0 0 20 0;");
        CHECK.due("his own HILL", z.beside(0), 1);
        CuckooShares w = Check.valleyOf("wheat 10;hill a 0 0;hill b 0 0;hill c 0 0;fall a 1;man m a 0 0;flight 1 0 0 0 0;");
        CHECK.due("of b and c the first", w.beside(0), 1);
        CHECK.due("no HILL but his", Check.valleyOf("hill a 3 3;man m a 0 0;flight 1 0;").beside(0), 0);
        CHECK.about("BESIDE, HUT: all others as they are, no question being asked ahead");
        // b lies by the first CALL, c by the second: once n sleeps on b, nothing is shared by the second.
        String two = "wheat 10;hill a 0 0;hill b 20 20;hill c 10 10;man m a 0 0;man n a 0 0;flight 1 0 0 20 20 1 10 10;";
        CuckooShares v = Check.valleyOf(two);
        CHECK.due("n is on a", v.beside(0), 1);
        CHECK.due("alone", v.better(0), 10);
        v.move(1, 1);
        CHECK.due("n is on b", v.beside(0), 1);
        CHECK.due("with n", v.better(0), 5);
        v.undo();
        CHECK.due("n is on a", v.hut(0), 1010);
        CHECK.due("alone", v.better(0), 10);
        v.move(1, 1);
        CHECK.due("n is on b", v.hut(0), 2020);
        CHECK.due("with n", v.better(0), 5);
    }

    private static void hut() {
        CHECK.about("HUT: the place (0 to 20 both; row by row by Y), if a HILL without a fall were there");
        String man = "hill a 7 7;fall a 9;man m a 0 0;";
        int[][] birds = {{0, 0}, {20, 0}, {0, 20}, {20, 20}, {7, 7}, {3, 11}};
        for (int[] bird : birds) {
            CuckooShares x = Check.valleyOf(man + "flight 1 0 0 " + bird[0] + " " + bird[1] + ";");
            CHECK.due("the bird is at " + bird[0] + ", " + bird[1], x.hut(0), 100 * bird[1] + bird[0]);
            CHECK.due("better(0)", x.better(0), 99);
        }
        CHECK.due("the least Y ahead of the least X", Check.valleyOf(man + "flight 1 2 0 5 5;").hut(0), 305);
        CHECK.due("in one row the least X", Check.valleyOf(man + "flight 1 5 0 3 0;").hut(0), 0);
        CHECK.due("in one row the least X that hears", Check.valleyOf(man + "flight 1 5 0 9 0;").hut(0), 4);
        CHECK.due("of like ones the first", Check.valleyOf(man + "flight 1 0;").hut(0), 0);
        CuckooShares x = Check.valleyOf(man + "flight 1 0 0 3 3;");
        x.hut(0);
        CHECK.due("he stays where he is", x.far(0, 0, 0), 8);
        CHECK.due("no HILL is built", x.count(0), 1);
    }

    private static void whence() {
        CHECK.about("WHENCE: FLIGHTS by which each of these MEN can have heard a CALL in that HOUR");
        CuckooShares x = Check.valleyOf("hill a 0 0;hill b 9 0;man m a 0 0;man n b 0 0;"
            + "flight 1 0 0 0 0 99 9 0;flight 1 0 0 0 0 98 9 0;flight 1 9 0 0 0;flight 1 0;");
        CHECK.due("m in HOUR 0", Check.whence(x, 0, 0), 7);
        CHECK.due("n in HOUR 0", Check.whence(x, 1, 0), 4);
        CHECK.due("n in HOUR 99", Check.whence(x, 1, 99), 1);
        CHECK.due("m in HOUR 0, n in HOUR 98", Check.whence(x, 0, 0, 1, 98), 2);
        CHECK.due("both in HOUR 0", Check.whence(x, 0, 0, 1, 0), 4);
        CHECK.due("no CALL in HOUR 1", Check.whence(x, 0, 1), 0);
        CHECK.due("a CALL that he can't have heard", Check.whence(x, 0, 99), 0);
        CHECK.due("each of these: the last one, too", Check.whence(x, 0, 0, 0, 0, 0, 1), 0);
        x.comes(3);
        CHECK.due("what has come is of no matter", Check.whence(x, 0, 0), 7);
    }

    private static void enough() {
        CHECK.about("ENOUGH: what a MAN has by it is what he needs, at least");
        String men = "wheat 10;hill a 0 0;hill b 9 0;man m a 0 0;man n a 0 0;man o b 0 0;flight 1 0 0 0 0;";
        CHECK.due("just so", Check.valleyOf(men + "needs m 5;").enough(0), 1);
        CHECK.due("one less", Check.valleyOf(men + "needs m 4;").enough(0), 1);
        CHECK.due("one more", Check.valleyOf(men + "needs m 6;").enough(0), 0);
        CHECK.due("0, and he has none", Check.valleyOf(men + "needs o 0;").enough(0), 4);
        CHECK.due("1, and he has none", Check.valleyOf(men + "needs o 1;").enough(0), 0);
        CuckooShares x = Check.valleyOf("wheat 10;hill a 0 0;man m a 0 0;man n a 0 0;needs m 6;needs n 5;flight 1 0 0 0 0;");
        CHECK.due("drawn(40, 1)", x.drawn(40, 1), 40);
        CHECK.due("a store", x.man(0, 6), 200);
        CHECK.due("is of no matter", x.enough(0), 2);
    }

    private static void least() {
        CHECK.about("LEAST wheat (0 to 999) by which all who have any weight in it have enough");
        String one = "hill a 0 0;hill b 9 9;man m a 0 0;man n b 0 0;flight 1 0 0 0 0;";
        CHECK.due("0", Check.valleyOf(one + "needs m 0;").least(0), 0);
        CHECK.due("1", Check.valleyOf(one + "needs m 1;").least(0), 1);
        CHECK.due("999", Check.valleyOf(one + "needs m 999;").least(0), 999);
        CHECK.due("who has no weight is of no matter", Check.valleyOf(one + "needs m 1;needs n 999;").least(0), 1);
        CHECK.due("the VALLEY's own wheat is of no matter", Check.valleyOf("wheat 0;" + one + "needs m 7;").least(0), 7);
        String three = "hill a 0 0;man m a 0 0;man n a 0 0;man o a 0 0;old o;flight 1 0 0 0 0;";
        CHECK.due("3 of 7: 333 needs 777", Check.valleyOf(three + "needs m 333;").least(0), 777);
        CHECK.due("3 of 7: 1 needs 3", Check.valleyOf(three + "needs m 1;").least(0), 3);
        CHECK.due("1 of 7: 1 needs 7", Check.valleyOf(three + "needs o 1;").least(0), 7);
        CHECK.due("all of them", Check.valleyOf(three + "needs m 4;needs n 5;needs o 1;").least(0), 12);
        CHECK.due("3 of 7: 428 needs 999", Check.valleyOf(three + "needs m 428;").least(0), 999);
        CHECK.due("3 of 7: 429 needs more", Check.valleyOf(three + "needs m 429;").least(0), -1);
        CHECK.about("LEAST: half of it, cut, at CALL 8");
        StringBuilder eight = new StringBuilder("hill a 0 0;man m a 0 0;flight 1 0");
        for (int k = 0; k < 9; k++) {
            eight.append(' ').append(k).append(k < 8 ? " 9 9" : " 0 0");
        }
        CHECK.due("0", Check.valleyOf(eight + ";needs m 0;").least(0), 0);
        CHECK.due("1", Check.valleyOf(eight + ";needs m 1;").least(0), 2);
        CHECK.due("499", Check.valleyOf(eight + ";needs m 499;").least(0), 998);
        CHECK.due("500", Check.valleyOf(eight + ";needs m 500;").least(0), -1);
    }

    // ---- draws

    /** The draws as the document tells them, for one MAN on one HILL: how often FLIGHT 0, of CHANCE 1 in n, comes. */
    private static int timesDrawn(int seed, int years, int chances) {
        int x = seed;
        int times = 0;
        for (int year = 0; year < years; year++) {
            x = x * 1103515245 + 12345;
            if ((x >>> 8) % 4 == 0) {
                x = x * 1103515245 + 12345;
            }
            x = x * 1103515245 + 12345;
            times += (x >>> 8) % chances == 0 ? 1 : 0;
        }
        return times;
    }

    private static void drawnSeeds() {
        CHECK.about("x becomes x * 1103515245 + 12345 (an int, wrapping), the draw is (x >>> 8) % n");
        int[] seeds = {0, 1, -1, 12345, Integer.MAX_VALUE, Integer.MIN_VALUE, -987654321, 1 << 30};
        for (int seed : seeds) {
            CuckooShares x = Check.valleyOf("wheat 1;hill a 0 0;man m a 0 0;flight 1 0 0 0 0;flight 2 0;");
            CHECK.due("drawn(40, " + seed + ")", x.drawn(40, seed), 40);
            CHECK.due("store by the seed " + seed, x.man(0, 6), timesDrawn(seed, 40, 3));
            CHECK.due("a coin is of no matter", x.man(0, 2), 0);
        }
    }

    private static void drawnMoves() {
        CHECK.about("a draw of 4: 0: a draw of all HILLS: he moves there, if he can");
        // The last of three HILLS alone hears; where the MAN is at the end of each YEAR tells all draws.
        String text = "wheat 1;hill a 0 0;hill b 5 0;hill c 9 0;man m a 0 1;flight 1 0 0 9 0;";
        int[] seeds = {3, -3, 77, Integer.MIN_VALUE};
        for (int seed : seeds) {
            CuckooShares x = Check.valleyOf(text);
            CuckooShares late = Check.valleyOf(text);
            late.comes(0);
            late.swear(0, 0);
            int draw = seed;
            int hill = 0;
            int store = 0;
            int lateHill = 0;
            int lateStore = 0;
            for (int year = 0; year < 40; year++) {
                draw = draw * 1103515245 + 12345;
                if ((draw >>> 8) % 4 == 0) {
                    draw = draw * 1103515245 + 12345;
                    hill = (draw >>> 8) % 3;
                    lateHill = year == 0 ? lateHill : hill;
                }
                draw = draw * 1103515245 + 12345;
                store += hill == 2 ? 1 : 0;
                lateStore += lateHill == 2 ? 1 : 0;
            }
            CHECK.due("drawn(40, " + seed + ")", x.drawn(40, seed), 40);
            CHECK.due("his HILL", x.man(0, 0), hill);
            CHECK.due("his store", x.man(0, 6), store);
            CHECK.about("he moves there, if he can: not in a YEAR in which a CALL is PAST");
            CHECK.due("drawn(40, " + seed + ")", late.drawn(40, seed), 40);
            CHECK.due("his HILL", late.man(0, 0), lateHill);
            CHECK.due("his store", late.man(0, 6), lateStore);
        }
        CHECK.about("he moves there, if he can: not in a YEAR in which a CALL is PAST");
        for (int seed = 0; seed < 40; seed++) {
            CuckooShares x = Check.valleyOf(text);
            x.comes(0);
            x.drawn(1, seed);
            CHECK.due("the seed " + seed, x.man(0, 0), 0);
        }
    }

    private static void drawnYears() {
        CHECK.about("the FLIGHT (it comes instead of one that has come); then the year is over");
        CuckooShares x = Check.valleyOf("wheat 9;hill a 0 0;man m a 0 3;flight 1 0 0 0 0;");
        x.hours(7);
        x.comes(0);
        x.swear(0, 0);
        CHECK.due("drawn(1, 5)", x.drawn(1, 5), 1);
        int[] nows = {1, -1, 0, 0, 0, 2, 9};
        for (int what = 0; what < 7; what++) {
            CHECK.due("now(" + what + ")", x.now(what), nows[what]);
        }
        CHECK.about("shared as by HONEST ones (coins of no matter)");
        CuckooShares y = Check.valleyOf("wheat 9;hill a 0 0;hill b 20 20;man m a 0 0;man n b 0 9;flight 1 0 0 0 0;");
        y.comes(0);
        y.swear(1, 0);
        CHECK.due("drawn(1, 5)", y.drawn(1, 5), 1);
        CHECK.due("who has no coin", y.man(0, 6), 9);
        CHECK.due("who has lied", y.man(1, 6), 0);
        CHECK.due("his coin is gone", y.man(1, 2), 8);
    }

    private static void newValley() {
        CHECK.about("A new VALLEY: YEAR 0, no FLIGHT, no SENTENCE");
        CuckooShares x = at(4);
        x.swear(0, 0);
        x.share();
        x.comes(0);
        x.hours(4);
        x.swear(0, 0);
        Check.sentence(x, "old");
        CHECK.due("valley()", Check.valley(x, LAND), 10);
        int[] nows = {0, -1, 0, 0, 0, 6, 0};
        for (int what = 0; what < 7; what++) {
            CHECK.due("now(" + what + ")", x.now(what), nows[what]);
        }
        CHECK.due("no SENTENCE", x.said(-1), -1);
        CHECK.due("all as in a new object", Check.allOf(x), Check.allOf(Check.valleyOf(LAND)));
        CHECK.due("nothing to undo in it", x.undo(), -1);
        CHECK.about("A new VALLEY, an empty one");
        CHECK.due("valley()", Check.valley(x, ""), 0);
        CHECK.due("all as in a new object", Check.allOf(x), Check.allOf(new CuckooShares()));
    }

    private static void throwing() {
        CHECK.about("A call that throws changes nothing");
        CuckooShares x = at(4);
        x.swear(0, 0);
        x.beside(1);
        Check.roll(x, "hour 1;shares;", 0);
        Check.sentence(x, "sworn");
        Check.put(x, "ridge 1;");
        int[] none = {-1, 2, 8, Integer.MAX_VALUE, Integer.MIN_VALUE};
        String all = Check.allOf(x);
        for (int n : none) {
            CHECK.throwing("man(0, " + n + ")", () -> x.man(0, n == 2 ? 9 : n));
            CHECK.throwing("man(" + n + ", 0)", () -> x.man(n == 2 ? 4 : n, 0));
            CHECK.throwing("mean(0, " + n + ")", () -> x.mean(0, n));
            CHECK.throwing("mean(" + n + ", 0)", () -> x.mean(n == 2 ? 4 : n, 0));
            CHECK.throwing("better(" + n + ")", () -> x.better(n));
        }
        CHECK.due("all", Check.allOf(x), all);
        CHECK.due("the tape", x.valley(), 1);
        CuckooShares y = at(4);
        CHECK.throwing("better(0)", () -> y.better(0));
        CHECK.throwing("man(9, 9)", () -> y.man(9, 9));
        CHECK.due("what can be undone", y.undo(), 1);
    }
}
