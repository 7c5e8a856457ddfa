/** Promises 6 to 10, 18 to 21 and 33: what is told, how FAR, who can HEAR. */
public final class ToldTest {
    private static final Check CHECK = new Check();
    private static final String VALLEY = "ridge 10;wind north 2;hill a 5 5;hill b 5 12;hill c 14 5;fall b 1;"
        + "man m a 2 1;man n b 2 1;man o c 2 1;man p c 0 0;man q a 0 3;deaf p m;deaf q p;old n;needs o 7;"
        + "flight 1 3 0 5 8 10 9 5;flight 4 0 1 11 0;";

    public static void main(String[] args) {
        told();
        wrong();
        hearing();
        ways();
        edges();
        CHECK.end();
    }

    private static void told() {
        CuckooShares x = Check.valleyOf(VALLEY);
        int[][] hills = {{5, 5, 0, 0, 17}, {5, 12, 1, 0, 2}, {14, 5, 0, 1, 12}};
        for (int h = 0; h < hills.length; h++) {
            for (int what = 0; what < 5; what++) {
                CHECK.due("hill(" + h + ", " + what + ")", x.hill(h, what), hills[h][what]);
            }
        }
        int[][] men = {
            {0, 2, 1, 0, -1, -1, 0, -1}, {1, 2, 1, 1, -1, -1, 0, -1}, {2, 2, 1, 0, -1, -1, 0, 7},
            {2, 0, 0, 0, 0, -1, 0, -1}, {0, 0, 3, 0, 3, -1, 0, -1},
        };
        for (int m = 0; m < men.length; m++) {
            for (int what = 0; what < 8; what++) {
                CHECK.due("man(" + m + ", " + what + ")", x.man(m, what), men[m][what]);
            }
        }
        int[][] flights = {{1, 3, 2}, {4, 0, 1}};
        for (int f = 0; f < 2; f++) {
            for (int what = 0; what < 3; what++) {
                CHECK.due("flight(" + f + ", " + what + ")", x.flight(f, what), flights[f][what]);
            }
        }
        int[][] calls = {{0, 5, 8, 0}, {10, 9, 5, 0}};
        for (int what = 0; what < 4; what++) {
            CHECK.due("call(0, 0, " + what + ")", x.call(0, 0, what), calls[0][what]);
            CHECK.due("call(0, 1, " + what + ")", x.call(0, 1, what), calls[1][what]);
        }
        CHECK.due("call(1, 0, 3)", x.call(1, 0, 3), 1);
        int[] nows = {0, -1, 0, 0, 0, 6, 0};
        for (int what = 0; what < 7; what++) {
            CHECK.due("now(" + what + ")", x.now(what), nows[what]);
        }
        int[] counts = {3, 5, 2, 5, 99, 0};
        for (int what = 0; what < 6; what++) {
            CHECK.due("count(" + what + ")", x.count(what), counts[what]);
        }
        x.feed(0, 0, 0, 0, 0);
        CHECK.due("count(5)", x.count(5), 20);
    }

    private static void wrong() {
        CuckooShares x = Check.valleyOf(VALLEY);
        int[] none = {-1, 5, 8, 9, Integer.MAX_VALUE, Integer.MIN_VALUE};
        for (int n : none) {
            CHECK.due("hill(" + n + ", 0)", x.hill(n, 0), -1);
            CHECK.due("hill(0, " + n + ")", x.hill(0, n), -1);
            CHECK.throwing("man(" + n + ", 0)", () -> x.man(n, 0));
            CHECK.due("flight(" + n + ", 0)", x.flight(n, 0), -1);
            CHECK.due("flight(0, " + n + ")", x.flight(0, n), -1);
            CHECK.due("call(" + n + ", 0, 0)", x.call(n, 0, 0), -1);
            CHECK.due("call(0, " + n + ", 0)", x.call(0, n, 0), -1);
            CHECK.due("call(0, 0, " + n + ")", x.call(0, 0, n), -1);
            CHECK.due("far(" + n + ", 0, 0)", x.far(n, 0, 0), -1);
            CHECK.due("far(0, " + n + ", 0)", x.far(0, n, 0), -1);
            CHECK.due("far(0, 0, " + n + ")", x.far(0, 0, n), -1);
            CHECK.due("hears(" + n + ", 0, 0)", x.hears(n, 0, 0), -1);
            CHECK.due("hears(0, " + n + ", 0)", x.hears(0, n, 0), -1);
            CHECK.due("hears(0, 0, " + n + ")", x.hears(0, 0, n), -1);
            CHECK.due("who(" + n + ", 0)", x.who(n, 0), -1);
            CHECK.due("who(0, " + n + ")", x.who(0, n), -1);
            CHECK.due("first(" + n + ", 0)", x.first(n, 0), -1);
            CHECK.due("first(0, " + n + ")", x.first(0, n), -1);
        }
        CHECK.throwing("man(0, -1)", () -> x.man(0, -1));
        CHECK.throwing("man(0, 8)", () -> x.man(0, 8));
        CHECK.throwing("man(4, MIN)", () -> x.man(4, Integer.MIN_VALUE));
        CHECK.due("hill(3, 0)", x.hill(3, 0), -1);
        CHECK.due("flight(0, 3)", x.flight(0, 3), -1);
        CHECK.due("call(0, 2, 0)", x.call(0, 2, 0), -1);
        CHECK.due("call(1, 1, 0)", x.call(1, 1, 0), -1);
        CHECK.due("call(0, 0, 4)", x.call(0, 0, 4), -1);
        CHECK.due("who(1, 1)", x.who(1, 1), -1);
        CHECK.due("first(0, 2)", x.first(0, 2), -1);
        CHECK.due("now(-1)", x.now(-1), -1);
        CHECK.due("now(7)", x.now(7), -1);
    }

    private static void hearing() {
        CuckooShares x = Check.valleyOf(VALLEY);
        CHECK.due("m is 3 FAR", x.far(0, 0, 0), 3);
        CHECK.due("n is 4 FAR", x.far(1, 0, 0), 4);
        CHECK.due("a deaf one is as FAR as his own HILL", x.far(3, 0, 0), 12);
        CHECK.due("m hears", x.hears(0, 0, 0), 1);
        CHECK.due("n hears just so, less his fall", x.hears(1, 0, 0), 1);
        CHECK.due("n is too far", x.hears(1, 0, 1), 0);
        CHECK.due("o hears nothing behind the ridge", x.hears(2, 0, 1), 0);
        CHECK.due("p hears what m can", x.hears(3, 0, 0), 1);
        CHECK.due("q hears nothing by a deaf one", x.hears(4, 0, 0), 0);
        CHECK.due("who(0, 0)", x.who(0, 0), 11);
        CHECK.due("who(0, 1)", x.who(0, 1), 9);
        CHECK.due("who(1, 0)", x.who(1, 0), 0);
        CHECK.due("first(0, 0)", x.first(0, 0), 0);
        CHECK.due("first(0, 1): p is there and hears by m", x.first(0, 1), 0);
        CHECK.due("first(1, 0)", x.first(1, 0), -1);
        CHECK.due("poor(): o and q", x.poor(), 20);
        CHECK.due("m moves to c", x.move(0, 2), 0);
        CHECK.due("he and p hear no more", x.who(0, 0), 2);
        CHECK.due("first(0, 1)", x.first(0, 1), -1);
        CHECK.due("poor()", x.poor(), 29);
        CHECK.due("he is FAR now", x.far(0, 0, 0), 12);
        CuckooShares none = Check.valleyOf("hill h 0 0;man m h 9 9;man n h 9 9;");
        CHECK.due("poor() without FLIGHTS", none.poor(), 3);
    }

    private static void ways() {
        String[] winds = {"north", "east", "south", "west"};
        // The hill (5, 5) lies three that way from the bird.
        String[] birds = {"5 8", "2 5", "5 2", "8 5"};
        for (int wind = 0; wind < 4; wind++) {
            for (int bird = 0; bird < 4; bird++) {
                CuckooShares x = Check.valleyOf("wind " + winds[wind] + " 2;hill a 5 5;man m a 0 0;flight 1 1 0 " + birds[bird] + ";");
                CHECK.due("wind " + winds[wind] + ", bird " + birds[bird], x.hears(0, 0, 0), wind == bird ? 1 : 0);
            }
        }
        CuckooShares still = Check.valleyOf("hill a 5 5;man m a 0 0;flight 1 1 0 5 8 1 5 6;");
        CHECK.due("no wind", still.who(0, 0), 0);
        CHECK.due("first(0, 0)", still.first(0, 0), 1);
    }

    private static void edges() {
        CuckooShares x = Check.valleyOf("hill a 5 5;fall a 1;man m a 0 0;flight 1 0 0 5 5;flight 1 1 0 5 5;");
        CHECK.due("less than 0 reaches nothing", x.hears(0, 0, 0), 0);
        CHECK.due("0 reaches 0", x.hears(0, 1, 0), 1);
        CuckooShares y = Check.valleyOf("ridge 5;hill a 5 5;hill b 6 5;man m a 0 0;man n b 0 0;flight 1 3 0 6 5;flight 1 4 0 6 5;");
        CHECK.due("the ridge's own X is in valley 0", y.hill(0, 3), 0);
        CHECK.due("a greater one in valley 1", y.hill(1, 3), 1);
        CHECK.due("over the ridge 3 less", y.who(0, 0), 2);
        CHECK.due("just heard over the ridge", y.who(1, 0), 3);
        CuckooShares z = Check.valleyOf("ridge 20;hill a 20 5;flight 1 3 0 20 5;");
        CHECK.due("nothing lies behind X 20", z.hill(0, 3) + z.call(0, 0, 3), 0);
        CHECK.due("nobody hears", z.who(0, 0), 0);
        CHECK.due("poor() without MEN", z.poor(), 0);
        CuckooShares w = Check.valleyOf("ridge 0;hill a 0 5;hill b 1 5;");
        CHECK.due("ridge 0", 10 * w.hill(0, 3) + w.hill(1, 3), 1);
    }
}
