/** Promises 25 to 32, 34 and 35: HONEST shares, means, where to sleep, whence, what is enough, swaps. */
public final class HonestTest {
    private static final Check CHECK = new Check();
    // m hears from a alone; n and o, with better ears, from b too, where wheat is shared with nobody.
    private static final String VALLEY = "ridge 10;hill a 0 0;hill b 20 0;man m b 0 1;man n a 9 1;man o a 9 1;flight 1 9 3 5 0;";

    public static void main(String[] args) {
        honest();
        means();
        places();
        deafPlaces();
        whence();
        enough();
        least();
        crowded();
        swaps();
        wrong();
        CHECK.end();
    }

    private static void honest() {
        CuckooShares x = Check.valleyOf("ridge 10;wind north 2;hill a 5 5;hill b 5 12;hill c 14 5;fall b 1;"
            + "man m a 2 1;man n b 2 1;man o c 2 0;man p c 0 0;man q a 0 3;deaf p m;deaf q p;flight 1 3 0 5 8 10 9 5;");
        int[] shares = {49, 49, 0, 99, 0};
        for (int m = 0; m < shares.length; m++) {
            CHECK.due("honest(" + m + ", 0)", x.honest(m, 0), shares[m]);
        }
        // Only the first heard CALL is shared: n hears the second one alone, and has nothing.
        CuckooShares y = Check.valleyOf("wheat 10;hill a 0 0;hill b 9 0;man m a 0 0;man n b 0 0;man o a 1 0;old o;flight 1 0 4 0 0 5 9 0;");
        CHECK.due("m: 3 of 4", y.honest(0, 0), 7);
        CHECK.due("n", y.honest(1, 0), 0);
        CHECK.due("o: 1 of 4", y.honest(2, 0), 2);
        y.comes(0);
        y.hours(9);
        CHECK.due("a FLIGHT that has come changes nothing", y.honest(0, 0), 7);
        StringBuilder eight = new StringBuilder("wheat 9;hill a 0 0;man m a 0 0;flight 1 0");
        for (int k = 0; k < 10; k++) {
            eight.append(' ').append(k).append(' ').append(k < 8 ? 20 : 0).append(" 0");
        }
        CHECK.due("half by CALL 8", Check.valleyOf(eight + ";").honest(0, 0), 4);
    }

    private static void means() {
        CuckooShares x = Check.valleyOf("wheat 10;hill a 0 0;hill b 9 0;man m a 0 0;man n b 0 0;man o b 0 0;man p b 0 0;"
            + "fall b 9;flight 4 0 4 0 0;flight 2 9 4 9 0;flight 3 0;");
        // m alone has 10 by 4 of 9; by the second FLIGHT, 2 of 9, all four have 2 each.
        int[][] means = {{44, 9}, {4, 9}, {4, 9}, {4, 9}};
        for (int m = 0; m < 4; m++) {
            CHECK.due("mean(" + m + ", 0)", x.mean(m, 0), means[m][0]);
            CHECK.due("mean(" + m + ", 1)", x.mean(m, 1), means[m][1]);
        }
        CuckooShares y = Check.valleyOf("wheat 12;hill a 0 0;man m a 0 0;man n a 0 0;flight 4 0 4 0 0;flight 2 0 4 9 9;");
        CHECK.due("6 by 4 of 6: 4", y.mean(0, 0), 4);
        CHECK.due("1 below", y.mean(0, 1), 1);
        CuckooShares z = Check.valleyOf("hill a 0 0;man m a 0 0;flight 7 0;");
        CHECK.due("0 above", z.mean(0, 0), 0);
        CHECK.due("1 below", z.mean(0, 1), 1);
    }

    private static void places() {
        CuckooShares x = Check.valleyOf(VALLEY);
        CHECK.throwing("better(0) ahead of any", () -> x.better(0));
        CHECK.throwing("better(1) ahead of any", () -> x.better(1));
        CHECK.due("m had better sleep on a", x.beside(0), 0);
        CHECK.due("three share there", x.better(0), 33);
        CHECK.due("1 below", x.better(1), 1);
        CHECK.due("n on b", x.beside(1), 1);
        CHECK.due("alone", x.better(0), 99);
        CHECK.due("n's hut behind the ridge", x.hut(1), 11);
        CHECK.due("alone there too", x.better(0), 99);
        CHECK.due("no such one", x.beside(3), -1);
        CHECK.due("no such one", x.hut(-1), -1);
        CHECK.due("the latest stays", x.better(0), 99);
        CHECK.throwing("better(2)", () -> x.better(2));
        CHECK.throwing("better(-1)", () -> x.better(-1));
        CHECK.due("all stays", x.man(1, 0), 0);
        CHECK.due("mean(1, 0) stays", x.mean(1, 0), 49);
        Check.valley(x, "wheat 5;hill a 0 0;hill b 1 1;man m b 0 0;flight 2 0;flight 1 0 1 2 3;");
        CHECK.due("better(0) stays", x.better(0), 99);
        CHECK.due("of like ones the first HILL", x.beside(0), 0);
        CHECK.due("0 above", x.better(0), 0);
        CHECK.due("1 below", x.better(1), 1);
        CHECK.due("a hut at Y 3 and X 2", x.hut(0), 302);
        CHECK.due("5 by 1 of 3", x.better(0), 5);
        CHECK.due("3 below", x.better(1), 3);
        Check.valley(x, "hill a 0 0;man m a 0 0;flight 2 0;");
        CHECK.due("of like places the first", x.hut(0), 0);
        CHECK.due("rows go by Y", Check.valleyOf("hill a 0 0;man m a 0 0;flight 2 1 0 5 5;").hut(0), 405);
        CHECK.due("the last place", Check.valleyOf("hill a 0 0;man m a 0 0;flight 2 0 0 20 20;").hut(0), 2020);
        CuckooShares fall = Check.valleyOf("hill a 5 5;fall a 9;man m a 0 0;flight 2 0 0 5 5;");
        CHECK.due("a fall on the HILL", fall.mean(0, 0), 0);
        CHECK.due("none at the hut", fall.hut(0), 505);
        CHECK.due("so it is heard", fall.better(0), 99);
    }

    private static void deafPlaces() {
        // n hears by m: where n sleeps only his valley counts, and where m sleeps n's hearing too.
        CuckooShares x = Check.valleyOf("ridge 10;wheat 12;hill a 0 0;hill b 20 0;man m a 0 0;man n a 9 0;deaf n m;flight 1 0 0 0 0;");
        CHECK.due("mean(1, 0)", x.mean(1, 0), 6);
        CHECK.due("n had better be in the other valley", x.beside(1), 1);
        CHECK.due("better(0)", x.better(0), 12);
        CHECK.due("its first place", x.hut(1), 11);
        CHECK.due("m had better stay", x.beside(0), 0);
        CHECK.due("better(0)", x.better(0), 6);
    }

    private static void whence() {
        CuckooShares x = Check.valleyOf("hill a 0 0;hill b 9 0;man m a 0 0;man n b 0 0;"
            + "flight 1 0 4 0 0 5 9 0;flight 1 0 4 0 0 6 9 0;flight 1 0 4 9 0;flight 1 9 0 0 0 99 9 0;");
        CHECK.due("m at 4", Check.whence(x, 0, 4), 3);
        CHECK.due("m at 4, n at 5", Check.whence(x, 0, 4, 1, 5), 1);
        CHECK.due("n at 6, m at 4", Check.whence(x, 1, 6, 0, 4), 2);
        CHECK.due("n at 4", Check.whence(x, 1, 4), 4);
        CHECK.due("m and n at 4", Check.whence(x, 0, 4, 1, 4), 0);
        CHECK.due("n at 99", Check.whence(x, 1, 99), 8);
        CHECK.due("n at 98", Check.whence(x, 1, 98), 0);
        CHECK.due("the same twice", Check.whence(x, 0, 4, 0, 4), 3);
        CHECK.due("no such MAN", Check.whence(x, 2, 4), -1);
        CHECK.due("no such MAN behind", Check.whence(x, 0, 4, 200, 4), -1);
        CHECK.due("no such HOUR", Check.whence(x, 0, 100), -1);
        CHECK.due("nothing", Check.whence(x), -1);
        CHECK.due("one byte", Check.whence(x, 0), -1);
        CHECK.due("three bytes", Check.whence(x, 0, 4, 0), -1);
        CHECK.due("the tape is empty then", x.count(5), 0);
        int[] pairs = new int[42];
        for (int i = 0; i < 42; i += 2) {
            pairs[i] = 0;
            pairs[i + 1] = 4;
        }
        CHECK.due("40 bytes", Check.whence(x, java.util.Arrays.copyOf(pairs, 40)), 3);
        CHECK.due("42 bytes", Check.whence(x, pairs), -1);
        x.move(0, 1);
        CHECK.due("from where he is", Check.whence(x, 0, 4), 4);
        CHECK.due("without FLIGHTS", Check.whence(Check.valleyOf("hill a 0 0;man m a 0 0;"), 0, 4), 0);
    }

    private static void enough() {
        CuckooShares x = Check.valleyOf("wheat 12;hill a 0 0;hill b 20 0;man m a 0 0;man n a 0 0;man o b 0 0;man p b 0 0;man q a 0 0;"
            + "needs m 4;needs n 5;needs o 0;needs p 1;flight 1 0 0 0 0;");
        CHECK.due("m just so, n not, o needs 0, q nothing told", x.enough(0), 5);
        CHECK.due("enough(1)", x.enough(1), -1);
        CHECK.due("enough(-1)", x.enough(-1), -1);
    }

    private static void least() {
        String two = "hill a 0 0;man m a 0 0;man n a 0 0;flight 1 0 0 0 0;";
        CHECK.due("nobody needs anything", Check.valleyOf(two).least(0), 0);
        CHECK.due("half of 14", Check.valleyOf(two + "needs m 7;").least(0), 14);
        CHECK.due("one old: 3 of 4", Check.valleyOf(two + "needs m 7;old n;").least(0), 10);
        CHECK.due("the old one: 1 of 4", Check.valleyOf(two + "needs m 7;needs n 3;old n;").least(0), 12);
        CHECK.due("998", Check.valleyOf(two + "needs m 499;").least(0), 998);
        CHECK.due("1000 is too much", Check.valleyOf(two + "needs m 500;").least(0), -1);
        String one = "hill a 0 0;man m a 0 0;flight 1 0";
        CHECK.due("999", Check.valleyOf(one + " 0 0 0;needs m 999;").least(0), 999);
        CHECK.due("nobody has any weight", Check.valleyOf(one + " 0 9 9;needs m 0;").least(0), -1);
        CHECK.due("no CALLS", Check.valleyOf(one + ";").least(0), -1);
        CHECK.due("who has no weight is of no matter",
            Check.valleyOf("hill a 0 0;hill b 9 9;man m a 0 0;man n b 0 0;needs n 900;needs m 8;flight 1 0 0 0 0;").least(0), 8);
        CHECK.due("both valleys", Check.valleyOf("ridge 5;hill a 0 0;hill b 9 0;man m a 0 0;man n b 0 0;"
            + "needs n 90;needs m 8;flight 1 20 0 0 0;").least(0), 90);
        StringBuilder eight = new StringBuilder();
        for (int k = 0; k < 9; k++) {
            eight.append(' ').append(k).append(' ').append(k < 8 ? 20 : 0).append(" 0");
        }
        CHECK.due("half by CALL 8", Check.valleyOf(one + eight + ";needs m 7;").least(0), 14);
        CHECK.due("499 by half", Check.valleyOf(one + eight + ";needs m 499;").least(0), 998);
        CHECK.due("500 by half", Check.valleyOf(one + eight + ";needs m 500;").least(0), -1);
        CuckooShares x = Check.valleyOf(two);
        CHECK.due("least(1)", x.least(1), -1);
        CHECK.due("least(-1)", x.least(-1), -1);
    }

    private static void crowded() {
        String men = "hill a 0 0;hill b 9 0;man m a 0 0;man n a 0 0;man o b 0 0;";
        CHECK.due("of like ones the first", Check.valleyOf(men + "flight 1 0 0 9 0;flight 9 0 0 0 0;flight 1 0 1 0 0;").crowded(), 1);
        CHECK.due("one shares", Check.valleyOf(men + "flight 1 0;flight 9 0 0 20 0;flight 1 0 1 9 0;").crowded(), 2);
        CHECK.due("nobody shares", Check.valleyOf(men + "flight 1 0;").crowded(), 0);
        CHECK.due("nobody shares in either", Check.valleyOf(men + "flight 1 0;flight 9 0 0 20 0;").crowded(), 0);
        CHECK.due("no MEN", Check.valleyOf("flight 1 1;").crowded(), 0);
        CHECK.due("no FLIGHTS", Check.valleyOf(men).crowded(), -1);
        CHECK.due("a new object", new CuckooShares().crowded(), -1);
        CHECK.due("both valleys are counted", Check.valleyOf("ridge 5;" + men + "flight 1 0 0 0 0;flight 1 20 0 0 0;").crowded(), 1);
    }

    private static void swaps() {
        CuckooShares x = Check.valleyOf(VALLEY);
        CHECK.due("swaps(-1)", x.swaps(-1), 2);
        CHECK.due("swaps(0)", x.swaps(0), 1);
        CHECK.due("swaps(1)", x.swaps(1), 2);
        CHECK.due("swaps(2)", x.swaps(2), -1);
        CHECK.due("swaps(-2)", x.swaps(-2), -1);
        CHECK.due("swaps(MAX)", x.swaps(Integer.MAX_VALUE), -1);
        CHECK.due("swaps(MIN)", x.swaps(Integer.MIN_VALUE), -1);
        CHECK.due("all stays", x.man(0, 0), 1);
        x.move(0, 0);
        CHECK.due("on one HILL nobody gains", x.swaps(-1), 0);
        CHECK.due("no FLIGHTS", Check.valleyOf("hill a 0 0;man m a 0 0;").swaps(-1), -1);
        CHECK.due("no MEN", Check.valleyOf("flight 1 0;").swaps(-1), 0);
    }

    private static void wrong() {
        CuckooShares x = Check.valleyOf(VALLEY);
        int[] none = {-1, 3, 8, Integer.MAX_VALUE, Integer.MIN_VALUE};
        for (int n : none) {
            CHECK.due("honest(" + n + ", 0)", x.honest(n, 0), -1);
            CHECK.due("honest(0, " + n + ")", x.honest(0, n), -1);
            CHECK.throwing("mean(" + n + ", 0)", () -> x.mean(n, 0));
            CHECK.throwing("mean(0, " + n + ")", () -> x.mean(0, n));
            CHECK.due("beside(" + n + ")", x.beside(n), -1);
            CHECK.due("hut(" + n + ")", x.hut(n), -1);
            CHECK.due("enough(" + n + ")", x.enough(n), -1);
            CHECK.due("least(" + n + ")", x.least(n), -1);
        }
        CHECK.throwing("mean(0, 2)", () -> x.mean(0, 2));
        CHECK.throwing("better(0)", () -> x.better(0));
        CuckooShares y = Check.valleyOf("hill a 0 0;man m a 0 0;");
        CHECK.throwing("no FLIGHTS", () -> y.mean(0, 0));
        CHECK.due("beside without FLIGHTS", y.beside(0), -1);
        CHECK.due("hut without FLIGHTS", y.hut(0), -1);
        CHECK.throwing("better(0)", () -> y.better(0));
    }
}
