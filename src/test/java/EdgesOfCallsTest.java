import java.util.Arrays;

/** Promises 1 to 44: each sentence that names an edge of a call's own: too small, too large, empty, full, refused. */
public final class EdgesOfCallsTest {
    private static final int[] FAR_OUT = {-1, -2, Integer.MIN_VALUE, Integer.MAX_VALUE, 100, 1000};
    // Three HILLS, four MEN, two FLIGHTS of two CALLS and of none; m on a hears all, n and o on b are five from it.
    private static final String LAND = "ridge 10;wheat 10;hill a 0 0;hill b 5 0;hill c 15 0;fall b 2;man m a 9 3;man n b 0 2;man o b 1 2;"
        + "man p c 9 1;old o;needs n 5;flight 1 1 2 1 0 4 6 0;flight 2 0;";
    private static final Check CHECK = new Check();

    public static void main(String[] args) {
        newObject();
        feed();
        end();
        valley();
        fault();
        hill();
        man();
        flight();
        call();
        now();
        comes();
        hours();
        move();
        swear();
        accuse();
        share();
        undoEach();
        undoKept();
        undoRefused();
        far();
        hears();
        who();
        first();
        lied();
        nearer();
        due();
        honest();
        mean();
        beside();
        hut();
        better();
        whence();
        enough();
        least();
        poor();
        crowded();
        swaps();
        drawn();
        odds();
        rollJudged();
        rollLived();
        rollRefused();
        rolled();
        rolledWhy();
        sentence();
        said();
        image();
        restore();
        count();
        fullValley();
        fullLie();
        fullOfFalls();
        smallerValley();
        CHECK.end();
    }

    private static CuckooShares land() {
        return Check.valleyOf(LAND);
    }

    private static CuckooShares at(int hour) {
        CuckooShares x = land();
        x.comes(0);
        if (hour > 0) {
            x.hours(hour);
        }
        return x;
    }

    /** Whether all that can be asked of all stays as it is. */
    private static void same(String what, CuckooShares x, String all) {
        CHECK.due(what, Check.allOf(x), all);
    }

    private static int[] andFarOut(int... more) {
        int[] all = Arrays.copyOf(FAR_OUT, FAR_OUT.length + more.length);
        System.arraycopy(more, 0, all, FAR_OUT.length, more.length);
        return all;
    }

    // ---- promises 1 to 5

    private static void newObject() {
        CHECK.about("Promise 1: an empty VALLEY; an empty tape");
        CuckooShares x = new CuckooShares();
        int[] counts = {0, 0, 0, 0, 99, 0};
        for (int what = 0; what < 6; what++) {
            CHECK.due("count(" + what + ")", x.count(what), counts[what]);
        }
        int[] nows = {0, -1, 0, 0, 0, 0, 0};
        for (int what = 0; what < 7; what++) {
            CHECK.due("now(" + what + ")", x.now(what), nows[what]);
        }
        CHECK.due("end(1)", x.end(1), false);
        CHECK.due("end(0)", x.end(0), true);
        CHECK.due("share()", x.share(), 1);
        CHECK.due("lied()", x.lied(), 0);
        CHECK.due("poor()", x.poor(), 0);
        CHECK.due("undo()", x.undo(), -1);
        CHECK.due("fault()", x.fault(), 0);
        CHECK.due("hours(1)", x.hours(1), 1);
        CHECK.due("valley() of an empty tape", x.valley(), 0);
        CHECK.due("roll(0) of an empty tape", x.roll(0), -1);
        CHECK.due("an object of its own", new CuckooShares().now(2), 0);
    }

    private static void feed() {
        CHECK.about("Promise 2: twenty bytes come behind the tape, of each number the highest first");
        CuckooShares x = new CuckooShares();
        CHECK.due("feed", x.feed(0x72696467, 0x65203132, 0x3b776865, 0x61742033, 0x34353b20), 20);
        CHECK.due("valley() of 'ridge 12;wheat 345; '", x.valley(), 2);
        CHECK.due("count(4)", x.count(4), 345);
        CHECK.due("feed of numbers below 0", x.feed(-1, Integer.MIN_VALUE, -2, -3, -4), 20);
        CHECK.due("the byte 255 is no TOKEN", x.valley(), -1);
        Check.valley(x, "hill a 0 0;man m a 0 0;man n a 0 0;flight 1 0 4 0 0;");
        x.feed(0x00040104, 0x01040004, 0, 0, 0);
        x.end(8);
        CHECK.due("whence() of 0, 4, 1, 4, 1, 4, 0, 4", x.whence(), 1);
        CHECK.about("Promise 2: how many it has; NONE, and none come, if it would have more than 940");
        CuckooShares y = new CuckooShares();
        for (int i = 1; i <= 47; i++) {
            CHECK.due("feed " + i, y.feed(0, 0, 0, 0, 0), 20 * i);
        }
        CHECK.due("more than 940", y.feed(0, 0, 0, 0, 0), -1);
        CHECK.due("none come", y.count(5), 940);
        for (int size = 939; size > 920; size -= 6) {
            y.end(size);
            CHECK.due("feed behind " + size, y.feed(0, 0, 0, 0, 0), -1);
            CHECK.due("none come behind " + size, y.count(5), size);
        }
        y.end(920);
        CHECK.due("just 940", y.feed(0, 0, 0, 0, 0), 940);
        y.end(1);
        CHECK.due("feed behind 1", y.feed(0, 0, 0, 0, 0), 21);
    }

    private static void end() {
        CHECK.about("Promise 3: the tape has its first n bytes alone: true; false, if it has not so many, or n is below 0");
        CuckooShares x = new CuckooShares();
        Check.put(x, "ridge 1;wheat 2;    ");
        CHECK.due("end(21)", x.end(21), false);
        for (int n : FAR_OUT) {
            CHECK.due("end(" + n + ")", x.end(n), false);
        }
        CHECK.due("it stays", x.count(5), 20);
        CHECK.due("end(20)", x.end(20), true);
        CHECK.due("count(5)", x.count(5), 20);
        CHECK.due("end(8)", x.end(8), true);
        CHECK.due("count(5)", x.count(5), 8);
        CHECK.due("end(9)", x.end(9), false);
        CHECK.due("valley() of the first 8", x.valley(), 1);
        CHECK.due("count(4)", x.count(4), 99);
        CHECK.due("end(1) of an empty tape", x.end(1), false);
        Check.put(x, "ridge 1;");
        x.end(6);
        x.feed(0x323b2020, 0x20202020, 0x20202020, 0x20202020, 0x20202020);
        CHECK.due("what comes behind 'ridge ' is '2;'", x.valley(), 1);
        CHECK.due("end(0)", x.end(0), true);
        Check.valley(x, "hill a 0 0;man m a 0 5;");
        Check.put(x, "coin=53");
        x.end(6);
        CHECK.due("'coin=5', not 'coin=53'", x.sentence(), 1);
        CHECK.due("it may be said of m", x.said(-1), 1);
        Check.put(x, "wheat 123;");
        x.end(8);
        x.feed(0x3b202020, 0x20202020, 0x20202020, 0x20202020, 0x20202020);
        CHECK.due("'wheat 12;'", x.valley(), 1);
        CHECK.due("count(4)", x.count(4), 12);
    }

    private static void valley() {
        CHECK.about("Promise 4: the tape (empty then, here and below) is the VALLEY now: how many LINES");
        CuckooShares x = land();
        CHECK.due("count(5)", x.count(5), 0);
        CHECK.due("valley() of an empty tape", x.valley(), 0);
        CHECK.due("an empty VALLEY", x.count(0), 0);
        CHECK.due("all LINES", Check.valley(x, LAND), 14);
        CHECK.about("Promise 4: -1 less the place of a FAULT: it stays");
        CuckooShares y = at(4);
        y.swear(0, 1);
        Check.sentence(y, "old");
        CHECK.due("a FAULT behind good LINES", Check.valley(y, "wheat 7;hill z 1 1;hill z 1 1;"), -25);
        CHECK.due("the tape is empty then, too", y.count(5), 0);
        CHECK.due("wheat", y.count(4), 10);
        CHECK.due("hills", y.count(0), 3);
        CHECK.due("X of the first", y.hill(0, 0), 0);
        CHECK.due("the FLIGHT", y.now(1), 0);
        CHECK.due("the HOUR", y.now(2), 4);
        CHECK.due("the oath", y.man(0, 5), 1);
        CHECK.due("the SENTENCE", y.said(0), 2);
        CHECK.due("what can be undone", y.undo(), 2);
        CHECK.due("names", Check.sentence(y, "on c"), 1);
        CHECK.due("no new names", Check.sentence(y, "on z"), -4);
        CHECK.about("Promise 4: (empty then, here and below): roll(), sentence(), whence(), too, with FAULTS or not");
        String[] texts = {"shares;", "#", "old", "not"};
        for (String text : texts) {
            Check.put(y, text);
            y.roll(0);
            CHECK.due("behind roll(0) of " + text, y.count(5), 0);
            Check.put(y, text);
            y.sentence();
            CHECK.due("behind sentence() of " + text, y.count(5), 0);
            Check.put(y, text);
            y.whence();
            CHECK.due("behind whence() of " + text, y.count(5), 0);
        }
        Check.whence(y, 0, 2);
        CHECK.due("behind whence() as told", y.count(5), 0);
    }

    private static void fault() {
        CHECK.about("Promise 5: the kind of the FAULT of the latest valley(), roll() or sentence(); 0 without one and ahead of any");
        CuckooShares x = new CuckooShares();
        CHECK.due("ahead of any", x.fault(), 0);
        Check.valley(x, "ridge 21;");
        CHECK.due("valley()", x.fault(), 2);
        Check.roll(x, "x moves h;", 0);
        CHECK.due("roll()", x.fault(), 3);
        Check.sentence(x, "(((((((((");
        CHECK.due("sentence()", x.fault(), 4);
        Check.valley(x, "#");
        CHECK.due("valley()", x.fault(), 1);
        Check.sentence(x, "old");
        CHECK.due("a good sentence()", x.fault(), 0);
        Check.valley(x, "#");
        Check.roll(x, "hour 1;", 1);
        CHECK.due("a good roll()", x.fault(), 0);
        Check.roll(x, "comes 9;", 1);
        CHECK.due("roll(1)", x.fault(), 2);
        Check.roll(x, "comes 3;", 0);
        CHECK.due("a WRONG roll() has no FAULT", x.fault(), 0);
        Check.sentence(x, "#");
        Check.valley(x, LAND);
        CHECK.due("a good valley()", x.fault(), 0);
        CHECK.about("Promise 5: (a roll() of -1000 leaves it)");
        Check.valley(x, "ridge 21;");
        Check.roll(x, "#", 2);
        CHECK.due("roll(2)", x.fault(), 2);
        x.end(0);
        Check.whence(x, 9);
        CHECK.due("whence() has no FAULTS", x.fault(), 2);
    }

    // ---- promises 6 to 10

    private static void hill() {
        CHECK.about("Promise 6: of a HILL: .. NONE: no such ones");
        CuckooShares x = land();
        int[][] hills = {{0, 0, 0, 0, 1}, {5, 0, 2, 0, 6}, {15, 0, 0, 1, 8}};
        for (int h = 0; h < 3; h++) {
            for (int what = 0; what < 5; what++) {
                CHECK.due("hill(" + h + ", " + what + ")", x.hill(h, what), hills[h][what]);
            }
            for (int what : andFarOut(5)) {
                CHECK.due("hill(" + h + ", " + what + ")", x.hill(h, what), -1);
            }
        }
        for (int h : andFarOut(3, 8)) {
            CHECK.due("hill(" + h + ", 0)", x.hill(h, 0), -1);
            CHECK.due("hill(" + h + ", 4)", x.hill(h, 4), -1);
        }
        CHECK.due("in an empty VALLEY", new CuckooShares().hill(0, 4), -1);
        x.move(3, 0);
        CHECK.due("MEN there", x.hill(0, 4), 9);
        CHECK.due("nobody there", x.hill(2, 4), 0);
    }

    private static void man() {
        CHECK.about("Promise 7: of a MAN: .. NoSuchElementException: no such ones");
        CuckooShares x = Check.valleyOf(LAND + "deaf p m;");
        int[][] men = {{0, 9, 3, 0, -1, -1, 0, -1}, {1, 0, 2, 0, -1, -1, 0, 5}, {1, 1, 2, 1, -1, -1, 0, -1}, {2, 9, 1, 0, 0, -1, 0, -1}};
        for (int m = 0; m < 4; m++) {
            int man = m;
            for (int what = 0; what < 8; what++) {
                CHECK.due("man(" + m + ", " + what + ")", x.man(m, what), men[m][what]);
            }
            for (int what : andFarOut(8)) {
                CHECK.throwing("man(" + m + ", " + what + ")", () -> x.man(man, what));
            }
        }
        for (int m : andFarOut(4, 8)) {
            CHECK.throwing("man(" + m + ", 0)", () -> x.man(m, 0));
            CHECK.throwing("man(" + m + ", 7)", () -> x.man(m, 7));
        }
        CuckooShares empty = new CuckooShares();
        CHECK.throwing("in an empty VALLEY", () -> empty.man(0, 0));
        CHECK.due("what he needs, if it is 0", Check.valleyOf("hill a 0 0;man m a 0 0;needs m 0;").man(0, 7), 0);
    }

    private static void flight() {
        CHECK.about("Promise 8: of a FLIGHT: .. NONE: no such ones");
        CuckooShares x = land();
        int[][] flights = {{1, 1, 2}, {2, 0, 0}};
        for (int f = 0; f < 2; f++) {
            for (int what = 0; what < 3; what++) {
                CHECK.due("flight(" + f + ", " + what + ")", x.flight(f, what), flights[f][what]);
            }
            for (int what : andFarOut(3)) {
                CHECK.due("flight(" + f + ", " + what + ")", x.flight(f, what), -1);
            }
        }
        for (int f : andFarOut(2, 4)) {
            CHECK.due("flight(" + f + ", 0)", x.flight(f, 0), -1);
        }
        CHECK.due("in an empty VALLEY", new CuckooShares().flight(0, 0), -1);
    }

    private static void call() {
        CHECK.about("Promise 9: of a CALL of a FLIGHT: .. NONE: no such ones");
        CuckooShares x = Check.valleyOf(LAND + "flight 1 0 99 11 20;");
        int[][] calls = {{2, 1, 0, 0}, {4, 6, 0, 0}};
        for (int k = 0; k < 2; k++) {
            for (int what = 0; what < 4; what++) {
                CHECK.due("call(0, " + k + ", " + what + ")", x.call(0, k, what), calls[k][what]);
            }
        }
        int[] last = {99, 11, 20, 1};
        for (int what = 0; what < 4; what++) {
            CHECK.due("call(2, 0, " + what + ")", x.call(2, 0, what), last[what]);
        }
        for (int n : andFarOut(3, 4, 10)) {
            CHECK.due("call(" + n + ", 0, 0)", x.call(n, 0, 0), -1);
            CHECK.due("call(0, " + n + ", 0)", x.call(0, n, 0), -1);
            CHECK.due("call(0, 0, " + n + ")", x.call(0, 0, n == 3 ? 4 : n), -1);
        }
        CHECK.due("one CALL too many", x.call(0, 2, 0), -1);
        CHECK.due("a FLIGHT without CALLS", x.call(1, 0, 0), -1);
    }

    private static void now() {
        CHECK.about("Promise 10: NONE for another what");
        CuckooShares x = at(4);
        x.swear(0, 0);
        x.swear(2, 1);
        int[] nows = {0, 0, 4, 2, 5, 6, 0};
        for (int what = 0; what < 7; what++) {
            CHECK.due("now(" + what + ")", x.now(what), nows[what]);
        }
        for (int what : andFarOut(7)) {
            CHECK.due("now(" + what + ")", x.now(what), -1);
        }
        x.share();
        CHECK.due("all stores", x.now(6), 10);
        CHECK.due("the FLIGHT that has come (NONE)", x.now(1), -1);
    }

    // ---- promises 11 to 17

    private static void comes() {
        CHECK.about("Promise 11: a FLIGHT COMES: 0, or why not; NONE: no such one");
        CuckooShares x = land();
        String all = Check.allOf(x);
        for (int f : andFarOut(2, 4)) {
            CHECK.due("comes(" + f + ")", x.comes(f), -1);
        }
        same("all", x, all);
        CHECK.due("comes(1)", x.comes(1), 0);
        all = Check.allOf(x);
        CHECK.due("comes(0)", x.comes(0), 1);
        CHECK.due("no such one, though one has come", x.comes(2), -1);
        same("all", x, all);
        CHECK.due("one is kept", x.undo(), 0);
        CHECK.due("in an empty VALLEY", new CuckooShares().comes(0), -1);
    }

    private static void hours() {
        CHECK.about("Promise 12: n (1 to 99) HOURS go by: the HOUR then; NONE: not as told");
        CuckooShares x = at(0);
        String all = Check.allOf(x);
        for (int n : andFarOut(0)) {
            CHECK.due("hours(" + n + ")", x.hours(n), -1);
        }
        same("all", x, all);
        CHECK.due("hours(1)", x.hours(1), 1);
        CHECK.due("hours(99)", x.hours(99), 99);
        CHECK.due("two more are kept", x.undo(), 2);
        CHECK.due("now(2)", x.now(2), 1);
        CHECK.due("hours(99) of a new object", new CuckooShares().hours(99), 99);
    }

    private static void move() {
        CHECK.about("Promise 13: a MAN MOVES to a HILL: 0, or why not; NONE: no such ones");
        CuckooShares x = land();
        String all = Check.allOf(x);
        for (int n : andFarOut(4, 8)) {
            CHECK.due("move(" + n + ", 0)", x.move(n, 0), -1);
            CHECK.due("move(0, " + n + ")", x.move(0, n), -1);
        }
        CHECK.due("one HILL too many", x.move(0, 3), -1);
        CHECK.due("he is there", x.move(3, 2), 1);
        same("all", x, all);
        CHECK.due("nothing is kept", x.undo(), -1);
        CHECK.due("the last MAN to the first HILL", x.move(3, 0), 0);
        CHECK.due("the first MAN to the last HILL", x.move(0, 2), 0);
        CHECK.due("hill(2, 4)", x.hill(2, 4), 1);
    }

    private static void swear() {
        CHECK.about("Promise 14: he SWEARS to a CALL (0 to 9): 0, or why not; NONE: no such ones");
        CuckooShares x = at(99);
        String all = Check.allOf(x);
        for (int n : andFarOut(10)) {
            CHECK.due("swear(" + n + ", 0)", x.swear(n, 0), -1);
            CHECK.due("swear(0, " + n + ")", x.swear(0, n), -1);
        }
        CHECK.due("one MAN too many", x.swear(4, 0), -1);
        for (int k = 2; k < 10; k++) {
            CHECK.due("swear(0, " + k + "): not PAST", x.swear(0, k), 2);
        }
        same("all", x, all);
        CHECK.due("swear(3, 1)", x.swear(3, 1), 0);
        CHECK.due("man(3, 5)", x.man(3, 5), 1);
        CHECK.due("three are kept", x.undo(), 2);
        StringBuilder ten = new StringBuilder("hill a 0 0;man m a 0 1;flight 1 0");
        for (int k = 0; k < 10; k++) {
            ten.append(' ').append(90 + k).append(" 0 0");
        }
        CuckooShares y = Check.valleyOf(ten + ";");
        y.comes(0);
        y.hours(98);
        CHECK.due("CALL 9 is not PAST", y.swear(0, 9), 2);
        y.hours(1);
        CHECK.due("CALL 9", y.swear(0, 9), 0);
    }

    private static void accuse() {
        CHECK.about("Promise 15: he CALLS the oath of another one: 0, or why not; NONE: no such ones, alike");
        CuckooShares x = at(4);
        x.swear(1, 0);
        String all = Check.allOf(x);
        for (int n : andFarOut(4, 8)) {
            CHECK.due("accuse(" + n + ", 1)", x.accuse(n, 1), -1);
            CHECK.due("accuse(0, " + n + ")", x.accuse(0, n), -1);
        }
        for (int m = 0; m < 4; m++) {
            CHECK.due("accuse(" + m + ", " + m + ")", x.accuse(m, m), -1);
        }
        CHECK.due("not sworn", x.accuse(0, 3), 1);
        CHECK.due("as FAR", x.accuse(2, 1), 2);
        same("all", x, all);
        CHECK.due("m calls n", x.accuse(0, 1), 0);
        CHECK.due("it is kept", x.undo(), 3);
        same("all", x, all);
    }

    private static void share() {
        CHECK.about("Promise 16: it is SHARED: 0, or why not");
        CuckooShares x = land();
        String all = Check.allOf(x);
        CHECK.due("no FLIGHT has come", x.share(), 1);
        same("all", x, all);
        CHECK.due("nothing is kept", x.undo(), -1);
        x.comes(0);
        CHECK.due("share()", x.share(), 0);
        CHECK.due("it is kept", x.undo(), 1);
        CHECK.due("now(1)", x.now(1), 0);
    }

    private static void undoEach() {
        CHECK.about("Promise 17: the latest of comes(), move(), swear(), accuse(), share(), hours(), drawn(), a ROLL is undone");
        CuckooShares x = land();
        String[] ahead = new String[9];
        ahead[0] = Check.allOf(x);
        x.move(0, 1);
        ahead[1] = Check.allOf(x);
        x.comes(0);
        ahead[2] = Check.allOf(x);
        x.hours(4);
        ahead[3] = Check.allOf(x);
        x.swear(3, 1);
        ahead[4] = Check.allOf(x);
        x.accuse(0, 3);
        ahead[5] = Check.allOf(x);
        x.share();
        ahead[6] = Check.allOf(x);
        x.drawn(3, 7);
        ahead[7] = Check.allOf(x);
        String text = "hour 3;comes 0;hour 4;n swears 1;shares;";
        Check.roll(x, text, 1);
        CHECK.due("all have done something", new java.util.HashSet<>(Arrays.asList(ahead)).size(), 9);
        int rolledWhy = x.rolled(1);
        for (int i = 7; i >= 0; i--) {
            CHECK.due("undo()", x.undo(), i);
            String now = Check.allOf(x);
            CHECK.due("as it was ahead of act " + i, now.substring(0, now.indexOf("; fault")), ahead[i].substring(0, ahead[i].indexOf("; fault")));
        }
        CHECK.due("none is", x.undo(), -1);
        CHECK.due("what a ROLL told stays", x.rolled(1), rolledWhy);
        CHECK.about("Promise 17: a ROLL that was lived: as far as it was not WRONG, by one undo()");
        CuckooShares y = land();
        y.hours(1);
        CHECK.due("WRONG at LINE 2", Check.roll(y, "hour 3;comes 0;comes 1;hour 9;", 1), 2);
        CHECK.due("lived so far", y.now(2), 4);
        CHECK.due("undo()", y.undo(), 1);
        CHECK.due("now(2)", y.now(2), 1);
        CHECK.due("now(1)", y.now(1), -1);
        CHECK.about("Promise 17: a ROLL that was judged is none");
        Check.roll(y, "hour 3;", 0);
        CHECK.due("undo()", y.undo(), 0);
        CHECK.due("the hour ahead of it", y.now(2), 0);
    }

    private static void undoKept() {
        CHECK.about("Promise 17: how many more can be (8 at most are kept); NONE: none is");
        CuckooShares x = new CuckooShares();
        CHECK.due("none", x.undo(), -1);
        for (int acts = 1; acts <= 20; acts++) {
            CuckooShares y = new CuckooShares();
            for (int i = 0; i < acts; i++) {
                y.hours(1);
            }
            int kept = Math.min(acts, 8);
            for (int left = kept - 1; left >= 0; left--) {
                CHECK.due("undo() of " + acts, y.undo(), left);
            }
            CHECK.due("one more undo() of " + acts, y.undo(), -1);
            CHECK.due("now(2) of " + acts, y.now(2), acts - kept);
        }
        CHECK.about("Promise 17: behind an undo() others come in its place");
        for (int i = 0; i < 12; i++) {
            x.hours(1);
        }
        x.undo();
        x.undo();
        CHECK.due("now(2)", x.now(2), 10);
        x.hours(5);
        CHECK.due("undo()", x.undo(), 6);
        CHECK.due("now(2)", x.now(2), 10);
        for (int left = 5; left >= 0; left--) {
            CHECK.due("undo()", x.undo(), left);
        }
        CHECK.due("now(2)", x.now(2), 4);
        CHECK.due("none", x.undo(), -1);
        CHECK.due("now(2) stays", x.now(2), 4);
    }

    private static void undoRefused() {
        CHECK.about("Promise 17: that was done, hours() that was not NONE, drawn() above 0");
        CuckooShares x = at(4);
        x.swear(0, 0);
        x.comes(1);
        x.comes(9);
        x.move(0, 0);
        x.move(0, 1);
        x.move(0, 9);
        x.swear(0, 0);
        x.swear(1, 9);
        x.swear(9, 0);
        x.accuse(1, 0);
        x.accuse(0, 0);
        x.hours(0);
        x.hours(100);
        x.drawn(0, 1);
        x.drawn(41, 1);
        Check.roll(x, "hour 5", 1);
        Check.roll(x, "hour 5;", 2);
        x.end(0);
        CHECK.due("undo(): the oath", x.undo(), 2);
        CHECK.due("man(0, 5)", x.man(0, 5), -1);
        CHECK.due("undo(): the hours", x.undo(), 1);
        CHECK.due("undo(): the FLIGHT", x.undo(), 0);
        CHECK.due("share()", x.share(), 1);
        CHECK.due("none", x.undo(), -1);
        CHECK.about("Promise 17: hours() that was not NONE, though none could go by");
        CuckooShares y = new CuckooShares();
        y.hours(99);
        y.hours(1);
        CHECK.due("undo()", y.undo(), 1);
        CHECK.due("now(2)", y.now(2), 99);
        CHECK.due("undo()", y.undo(), 0);
        CHECK.due("now(2)", y.now(2), 0);
        CHECK.about("Promise 17: drawn() above 0: of 1");
        CuckooShares one = land();
        one.drawn(1, 1);
        CHECK.due("undo()", one.undo(), 0);
        CHECK.due("now(0)", one.now(0), 0);
        CHECK.about("Promise 17: drawn() of 0 is none");
        CuckooShares z = land();
        z.drawn(40, 1);
        z.drawn(40, 1);
        z.drawn(40, 1);
        CHECK.due("drawn(1, 1)", z.drawn(1, 1), 0);
        CHECK.due("undo()", z.undo(), 2);
        CHECK.due("now(0)", z.now(0), 80);
    }

    // ---- promises 18 to 24

    private static void far() {
        CHECK.about("Promise 18: how FAR; NONE: no such ones");
        CuckooShares x = land();
        for (int n : andFarOut(4, 8, 10)) {
            CHECK.due("far(" + n + ", 0, 0)", x.far(n, 0, 0), -1);
            CHECK.due("far(0, " + n + ", 0)", x.far(0, n, 0), -1);
            CHECK.due("far(0, 0, " + n + ")", x.far(0, 0, n), -1);
        }
        CHECK.due("one CALL too many", x.far(0, 0, 2), -1);
        CHECK.due("one FLIGHT too many", x.far(0, 2, 0), -1);
        CHECK.due("a FLIGHT without CALLS", x.far(0, 1, 0), -1);
        CHECK.due("far(3, 0, 1)", x.far(3, 0, 1), 9);
        CHECK.due("no FLIGHT need come", x.now(1), -1);
    }

    private static void hears() {
        CHECK.about("Promise 19: whether a MAN can HEAR it: 1, 0; NONE: no such ones");
        CuckooShares x = land();
        for (int n : andFarOut(4, 8, 10)) {
            CHECK.due("hears(" + n + ", 0, 0)", x.hears(n, 0, 0), -1);
            CHECK.due("hears(0, " + n + ", 0)", x.hears(0, n, 0), -1);
            CHECK.due("hears(0, 0, " + n + ")", x.hears(0, 0, n), -1);
        }
        CHECK.due("one CALL too many", x.hears(0, 0, 2), -1);
        CHECK.due("one FLIGHT too many", x.hears(0, 2, 0), -1);
        CHECK.due("a FLIGHT without CALLS", x.hears(0, 1, 0), -1);
        CHECK.due("1", x.hears(0, 0, 0), 1);
        CHECK.due("0", x.hears(1, 0, 0), 0);
    }

    private static void who() {
        CHECK.about("Promise 20: who can, as bits; NONE: no such ones");
        CuckooShares x = land();
        for (int n : andFarOut(4, 10)) {
            CHECK.due("who(" + n + ", 0)", x.who(n, 0), -1);
            CHECK.due("who(0, " + n + ")", x.who(0, n), -1);
        }
        CHECK.due("one CALL too many", x.who(0, 2), -1);
        CHECK.due("one FLIGHT too many", x.who(2, 0), -1);
        CHECK.due("a FLIGHT without CALLS", x.who(1, 0), -1);
        CHECK.due("who(0, 0)", x.who(0, 0), 1);
        CHECK.due("nobody", Check.valleyOf("flight 1 0 0 0 0;").who(0, 0), 0);
        StringBuilder eight = new StringBuilder("hill a 0 0;flight 1 0 0 0 0;");
        for (int m = 0; m < 8; m++) {
            eight.append("man ").append((char) ('p' + m)).append(" a 0 0;");
        }
        CHECK.due("all eight", Check.valleyOf(eight.toString()).who(0, 0), 255);
    }

    private static void first() {
        CHECK.about("Promise 21: the first CALL that anybody in a valley (0, 1) can HEAR; NONE: none, no such ones");
        CuckooShares x = land();
        CHECK.due("first(0, 0)", x.first(0, 0), 0);
        CHECK.due("first(0, 1): p is nine from the second, 9 and 1 less 3", x.first(0, 1), -1);
        CHECK.due("a FLIGHT without CALLS", x.first(1, 0), -1);
        for (int n : andFarOut(2)) {
            CHECK.due("first(" + n + ", 0)", x.first(n, 0), -1);
            CHECK.due("first(0, " + n + ")", x.first(0, n), -1);
        }
        CuckooShares y = Check.valleyOf("ridge 5;hill a 0 0;hill b 9 0;man m a 0 0;man n b 0 0;flight 1 0 0 20 20 1 9 0 2 0 0;flight 1 0 0 20 20;");
        CHECK.due("first(0, 0)", y.first(0, 0), 2);
        CHECK.due("first(0, 1)", y.first(0, 1), 1);
        CHECK.due("none", y.first(1, 0), -1);
        y.move(1, 0);
        CHECK.due("nobody is there", y.first(0, 1), -1);
    }

    private static void lied() {
        CHECK.about("Promise 22: LIED: who, as bits");
        CuckooShares x = land();
        CHECK.due("nobody", x.lied(), 0);
        x.comes(0);
        x.hours(4);
        for (int m = 0; m < 4; m++) {
            x.swear(m, 0);
        }
        CHECK.due("all but m", x.lied(), 14);
        x.accuse(1, 3);
        CHECK.due("the same CALL: not struck", x.lied(), 14);
        x.undo();
        CHECK.due("p has not sworn", x.lied(), 6);
    }

    private static void nearer() {
        CHECK.about("Promise 23: who could call the oath of a MAN so that it is struck, as bits; NONE: no such one");
        CuckooShares x = at(4);
        for (int m : andFarOut(4, 8)) {
            CHECK.due("nearer(" + m + ")", x.nearer(m), -1);
        }
        CHECK.due("not sworn", x.nearer(3), 0);
        x.swear(3, 0);
        CHECK.due("m, n, o", x.nearer(3), 7);
        x.swear(1, 0);
        CHECK.due("n has sworn to the same CALL", x.nearer(3), 5);
        CHECK.due("of n: m alone, o is as FAR", x.nearer(1), 1);
        x.swear(0, 1);
        CHECK.due("another CALL", x.nearer(3), 5);
        CHECK.due("the truth is not struck", x.nearer(0), 0);
        CHECK.due("nothing is done", x.now(4), 11);
        CuckooShares y = Check.valleyOf("hill a 0 0;hill b 5 0;man m a 0 0;man n b 0 1;flight 1 0 0 0 0;");
        y.comes(0);
        y.swear(1, 0);
        CHECK.due("he has no coin", y.nearer(1), 0);
    }

    private static void due() {
        CHECK.about("Promise 24: what a MAN would have; NONE: no FLIGHT has come, no such one");
        CuckooShares x = land();
        CHECK.due("no FLIGHT", x.due(0), -1);
        x.comes(0);
        for (int m : andFarOut(4, 8)) {
            CHECK.due("due(" + m + ")", x.due(m), -1);
        }
        CHECK.due("nobody has sworn", x.due(0), 0);
        x.hours(4);
        x.swear(0, 0);
        x.swear(2, 0);
        CHECK.due("3 of 4", x.due(0), 7);
        CHECK.due("1 of 4", x.due(2), 2);
        CHECK.due("not sworn", x.due(1), 0);
        x.share();
        CHECK.due("the year is over", x.due(0), -1);
        CHECK.due("what was due", x.man(0, 6), 7);
    }

    // ---- promises 25 to 29

    private static void honest() {
        CHECK.about("Promise 25: what he has by an HONEST sharing of a FLIGHT; NONE: no such ones");
        CuckooShares x = land();
        for (int n : andFarOut(4, 8)) {
            CHECK.due("honest(" + n + ", 0)", x.honest(n, 0), -1);
            CHECK.due("honest(0, " + n + ")", x.honest(0, n), -1);
        }
        CHECK.due("one FLIGHT too many", x.honest(0, 2), -1);
        CHECK.due("honest(0, 0)", x.honest(0, 0), 10);
        CHECK.due("a FLIGHT without CALLS", x.honest(0, 1), 0);
    }

    private static void mean() {
        CHECK.about("Promise 26: his MEAN. NoSuchElementException: no such ones, no FLIGHTS");
        CuckooShares x = land();
        for (int n : andFarOut(4, 8)) {
            CHECK.throwing("mean(" + n + ", 0)", () -> x.mean(n, 0));
            CHECK.throwing("mean(0, " + n + ")", () -> x.mean(0, n));
        }
        CHECK.throwing("mean(0, 2)", () -> x.mean(0, 2));
        CHECK.due("above", x.mean(0, 0), 10);
        CHECK.due("below", x.mean(0, 1), 3);
        CuckooShares y = Check.valleyOf("hill a 0 0;man m a 0 0;");
        CHECK.throwing("no FLIGHTS: mean(0, 0)", () -> y.mean(0, 0));
        CHECK.throwing("no FLIGHTS: mean(0, 1)", () -> y.mean(0, 1));
        CuckooShares z = Check.valleyOf("flight 1 0;");
        CHECK.throwing("no MEN", () -> z.mean(0, 0));
    }

    private static void beside() {
        CHECK.about("Promise 27: the HILL; NONE: no such one, no FLIGHTS");
        CuckooShares x = land();
        for (int m : andFarOut(4, 8)) {
            CHECK.due("beside(" + m + ")", x.beside(m), -1);
        }
        CHECK.due("beside(3)", x.beside(3), 0);
        CHECK.due("no FLIGHTS", Check.valleyOf("hill a 0 0;man m a 0 0;").beside(0), -1);
        CHECK.due("no MEN", Check.valleyOf("hill a 0 0;flight 1 0;").beside(0), -1);
    }

    private static void hut() {
        CHECK.about("Promise 28: 100 times Y and X; NONE: no such one, no FLIGHTS");
        CuckooShares x = land();
        for (int m : andFarOut(4, 8)) {
            CHECK.due("hut(" + m + ")", x.hut(m), -1);
        }
        CHECK.due("100 times Y and X", Check.valleyOf("hill a 0 0;man m a 0 0;flight 1 0 0 12 7;").hut(0), 712);
        CHECK.due("no FLIGHTS", Check.valleyOf("hill a 0 0;man m a 0 0;").hut(0), -1);
        CHECK.due("no MEN", Check.valleyOf("hill a 0 0;flight 1 0;").hut(0), -1);
    }

    private static void better() {
        CHECK.about("Promise 29: his MEAN by the latest beside() or hut() that was not NONE");
        CuckooShares x = Check.valleyOf("wheat 9;hill a 0 0;hill b 1 0;man m a 0 0;flight 1 0 0 1 0;flight 1 0 0 3 3 1 1 0;flight 2 0 0 3 3;");
        CHECK.throwing("ahead of any: better(0)", () -> x.better(0));
        CHECK.throwing("ahead of any: better(1)", () -> x.better(1));
        CHECK.due("a NONE is none", x.beside(1), -1);
        CHECK.throwing("better(0)", () -> x.better(0));
        CHECK.due("a NONE is none", x.hut(-1), -1);
        CHECK.throwing("better(0)", () -> x.better(0));
        CHECK.due("beside(0)", x.beside(0), 1);
        CHECK.due("9 by 2 of 4", x.better(0), 9);
        CHECK.due("2 below", x.better(1), 2);
        CHECK.due("hut(0)", x.hut(0), 303);
        CHECK.due("9 by 3 of 4", x.better(0), 27);
        CHECK.due("4 below", x.better(1), 4);
        CHECK.due("hut(1)", x.hut(1), -1);
        CHECK.due("beside(-1)", x.beside(-1), -1);
        CHECK.due("the latest that was not NONE", x.better(0), 27);
        CHECK.due("beside(0)", x.beside(0), 1);
        CHECK.due("the latest of both", x.better(0), 9);
        CuckooShares nothing = Check.valleyOf("hill a 0 0;man m a 0 0;flight 7 0;");
        nothing.beside(0);
        CHECK.due("a MEAN of nothing: 0 above", Check.answer(() -> nothing.better(0)), 0);
        CHECK.due("a MEAN of nothing: 1 below", Check.answer(() -> nothing.better(1)), 1);
        CHECK.about("Promise 29: NoSuchElementException: another what");
        for (int what : andFarOut(2)) {
            CHECK.throwing("better(" + what + ")", () -> x.better(what));
        }
    }

    // ---- promises 30 to 35

    private static int[] pairs(int bytes) {
        int[] all = new int[bytes];
        for (int i = 1; i < bytes; i += 2) {
            all[i] = 4;
        }
        return all;
    }

    private static void whence() {
        CHECK.about("Promise 30: FLIGHTS, as bits; NONE: not as told (2 to 40 bytes, an even number of them)");
        CuckooShares x = Check.valleyOf("hill a 0 0;man m a 9 0;flight 1 9 4 0 0;flight 1 9;flight 1 9 4 1 1;flight 1 9 4 20 20;");
        for (int bytes = 0; bytes <= 60; bytes++) {
            boolean told = bytes >= 2 && bytes <= 40 && bytes % 2 == 0;
            CHECK.due(bytes + " bytes", Check.whence(x, pairs(bytes)), told ? 5 : -1);
        }
        CHECK.about("Promise 30: pairs of bytes: a MAN, an HOUR");
        CHECK.due("no such MAN", Check.whence(x, 1, 4), -1);
        CHECK.due("no such MAN, behind one", Check.whence(x, 0, 4, 8, 4), -1);
        CHECK.due("255", Check.whence(x, 255, 4), -1);
        CHECK.due("HOUR 99", Check.whence(x, 0, 99), 0);
        CHECK.due("100 is no HOUR", Check.whence(x, 0, 100), -1);
        CHECK.due("255 is no HOUR", Check.whence(x, 0, 4, 0, 255), -1);
        CHECK.due("no FLIGHTS", Check.whence(Check.valleyOf("hill a 0 0;man m a 9 0;"), 0, 4), 0);
        CHECK.due("no MEN", Check.whence(Check.valleyOf("flight 1 9 4 0 0;"), 0, 4), -1);
    }

    private static void enough() {
        CHECK.about("Promise 31: who has ENOUGH, as bits (who needs nothing told: not); NONE: no such one");
        CuckooShares x = land();
        for (int f : andFarOut(2, 4)) {
            CHECK.due("enough(" + f + ")", x.enough(f), -1);
        }
        CHECK.due("m has all of it, nothing told", x.enough(0), 0);
        CuckooShares y = Check.valleyOf("hill a 0 0;man m a 0 0;man n a 0 0;needs n 0;flight 1 0 0 0 0;flight 1 0;");
        CHECK.due("needs 0", y.enough(0), 2);
        CHECK.due("needs 0, by a FLIGHT without CALLS", y.enough(1), 2);
    }

    private static void least() {
        CHECK.about("Promise 32: LEAST wheat; NONE: nobody has any weight, not by 999, no such one. (Who needs nothing told: 0.)");
        CuckooShares x = land();
        for (int f : andFarOut(2, 4)) {
            CHECK.due("least(" + f + ")", x.least(f), -1);
        }
        CHECK.due("m, nothing told", x.least(0), 0);
        CHECK.due("nobody has any weight: no CALLS", x.least(1), -1);
        CHECK.due("nobody has any weight: nobody hears", Check.valleyOf("hill a 0 0;man m a 0 0;needs m 0;flight 1 0 0 1 0;").least(0), -1);
        CHECK.due("nobody has any weight: no MEN", Check.valleyOf("flight 1 0 0 1 0;").least(0), -1);
        String two = "hill a 0 0;man m a 0 0;man n a 0 0;flight 1 0 0 0 0;";
        CHECK.due("by 998", Check.valleyOf(two + "needs m 499;").least(0), 998);
        CHECK.due("not by 999", Check.valleyOf(two + "needs m 500;").least(0), -1);
    }

    private static void poor() {
        CHECK.about("Promise 33: MEN who hear no CALL of any FLIGHT from where they are");
        CuckooShares x = land();
        CHECK.due("all but m; o, one from the second CALL, by the fall", x.poor(), 14);
        x.move(1, 0);
        x.move(2, 0);
        CHECK.due("on a both are one from the first, and LOUD is 1", x.poor(), 8);
        CHECK.due("no FLIGHTS", Check.valleyOf("hill a 0 0;man m a 9 0;man n a 9 0;").poor(), 3);
        CHECK.due("FLIGHTS without CALLS", Check.valleyOf("hill a 0 0;man m a 9 0;flight 1 20;").poor(), 1);
        CHECK.due("no MEN", Check.valleyOf("flight 1 20 0 0 0;").poor(), 0);
        CHECK.due("the last CALL of the last FLIGHT", Check.valleyOf("hill a 0 0;man m a 0 0;flight 1 0;flight 1 0 0 1 1;flight 1 0;"
            + "flight 1 0 0 1 1 1 2 2 2 0 0;").poor(), 0);
    }

    private static void crowded() {
        CHECK.about("Promise 34: the FLIGHT with the most sharers if all are HONEST (of like ones the first); NONE: none");
        String men = "ridge 5;hill a 0 0;hill b 9 0;man m a 0 0;man n a 0 0;man o b 0 0;";
        CHECK.due("no FLIGHTS", Check.valleyOf(men).crowded(), -1);
        CHECK.due("an empty VALLEY", new CuckooShares().crowded(), -1);
        CHECK.due("no sharers", Check.valleyOf(men + "flight 1 0;").crowded(), 0);
        CHECK.due("no sharers in four", Check.valleyOf(men + "flight 1 0;flight 2 0;flight 3 0 0 20 20;flight 4 0;").crowded(), 0);
        CHECK.due("the last one", Check.valleyOf(men + "flight 1 0;flight 1 0 0 9 0;flight 1 0;flight 1 0 0 0 0;").crowded(), 3);
        CHECK.due("of like ones the first", Check.valleyOf(men + "flight 1 0 0 9 0;flight 1 0 0 0 0;flight 9 0 0 0 0;").crowded(), 1);
        CHECK.due("of both valleys together", Check.valleyOf(men + "flight 1 0 0 0 0;flight 1 0 0 9 0 1 0 0;").crowded(), 1);
    }

    private static void swaps() {
        CHECK.about("Promise 35: pairs of MEN: how many (k NONE), or the k-th; NONE: none such, no FLIGHTS");
        // m, who hears from a alone, sleeps on b; n and o, who hear from b too, share on a.
        CuckooShares x = Check.valleyOf("ridge 10;hill a 0 0;hill b 20 0;man m b 0 1;man n a 9 1;man o a 9 1;flight 1 9 3 5 0;");
        CHECK.due("how many", x.swaps(-1), 2);
        CHECK.due("10 times the lesser and the greater", x.swaps(0), 1);
        CHECK.due("the last", x.swaps(1), 2);
        CHECK.due("none such", x.swaps(2), -1);
        for (int k : FAR_OUT) {
            CHECK.due("swaps(" + k + ")", x.swaps(k), k == -1 ? 2 : -1);
        }
        CHECK.due("all stays", x.hill(0, 4), 6);
        CuckooShares none = Check.valleyOf("hill a 0 0;man m a 0 0;man n a 0 0;flight 1 0;");
        CHECK.due("none: how many", none.swaps(-1), 0);
        CHECK.due("none: the first", none.swaps(0), -1);
        CHECK.due("no MEN", Check.valleyOf("flight 1 0;").swaps(-1), 0);
        CuckooShares still = Check.valleyOf("hill a 0 0;man m a 0 0;man n a 0 0;");
        CHECK.due("no FLIGHTS: how many", still.swaps(-1), -1);
        CHECK.due("no FLIGHTS: the first", still.swaps(0), -1);
        CHECK.about("Promise 35: who would both have more: not as much, not one alone");
        CHECK.due("n alone", Check.valleyOf("hill a 0 0;hill b 9 0;man m a 0 0;man n b 0 0;flight 1 0 0 0 0;").swaps(-1), 0);
        CHECK.due("both as much", Check.valleyOf("hill a 0 0;hill b 0 0;man m a 0 0;man n b 0 0;flight 1 0 0 0 0;").swaps(-1), 0);
        // Who has the EAR 9 hears from both HILLS, alone in each valley.
        String hills = "ridge 5;hill a 0 0;hill b 9 0;flight 1 3 0 0 0;";
        CHECK.due("m has more, n as much", Check.valleyOf(hills + "man m b 0 0;man n a 9 0;").swaps(-1), 0);
        CHECK.due("m as much, n has more", Check.valleyOf(hills + "man m a 9 0;man n b 0 0;").swaps(-1), 0);
        CHECK.about("Promise 35: the k-th, the lesser first");
        CuckooShares y = Check.valleyOf("ridge 10;hill a 0 0;hill b 20 0;man n a 9 1;man o a 9 1;man m b 0 1;flight 1 9 3 5 0;");
        CHECK.due("how many", y.swaps(-1), 2);
        CHECK.due("0 and 2", y.swaps(0), 2);
        CHECK.due("1 and 2", y.swaps(1), 12);
        CHECK.about("Promise 35: from where they are now");
        y.move(0, 1);
        y.move(2, 0);
        CHECK.due("nobody", y.swaps(-1), 0);
    }

    // ---- promises 36 to 39

    private static void drawn() {
        CHECK.about("Promise 36: n (1 to 40) YEARS: how many went by; NONE: not as told, no HILLS, no FLIGHTS");
        CuckooShares x = land();
        String all = Check.allOf(x);
        for (int n : andFarOut(0, 41)) {
            CHECK.due("drawn(" + n + ", 1)", x.drawn(n, 1), -1);
        }
        same("all", x, all);
        CHECK.due("drawn(1, 1)", x.drawn(1, 1), 1);
        CHECK.due("drawn(40, 1)", x.drawn(40, 1), 40);
        CHECK.due("drawn(40, 1)", x.drawn(40, 1), 40);
        CHECK.due("as many as can", x.drawn(40, 1), 18);
        CHECK.due("YEAR 99", x.now(0), 99);
        x.comes(0);
        all = Check.allOf(x);
        CHECK.due("none can", x.drawn(40, 1), 0);
        same("all", x, all);
        CHECK.due("no HILLS", Check.valleyOf("flight 1 0;").drawn(1, 1), -1);
        CHECK.due("no FLIGHTS", Check.valleyOf("hill a 0 0;man m a 0 0;").drawn(1, 1), -1);
        CHECK.due("no MEN", Check.valleyOf("hill a 0 0;flight 1 0;").drawn(40, 1), 40);
        CHECK.due("an empty VALLEY", new CuckooShares().drawn(1, 1), -1);
    }

    private static void odds() {
        CHECK.about("Promise 37: of n (1 to 30) seeds .. than w (0 to 999) more than now; NONE: no such ones, no FLIGHTS");
        CuckooShares x = Check.valleyOf("wheat 7;hill a 0 0;man m a 0 0;flight 1 0 0 0 0;");
        x.drawn(2, 1);
        String all = Check.allOf(x);
        for (int n : andFarOut(0, 31)) {
            CHECK.due("n " + n, x.odds(0, 0, n, 1), -1);
        }
        int[] wheats = {-1, Integer.MIN_VALUE, 1000, Integer.MAX_VALUE};
        for (int w : wheats) {
            CHECK.due("w " + w, x.odds(0, w, 1, 1), -1);
        }
        for (int m : andFarOut(1, 8)) {
            CHECK.due("MAN " + m, x.odds(m, 0, 1, 1), -1);
        }
        CHECK.due("n 1", x.odds(0, 0, 1, 1), 1);
        CHECK.due("n 30", x.odds(0, 0, 30, 1), 30);
        CHECK.due("5 YEARS: more than 34", x.odds(0, 34, 30, 1), 30);
        CHECK.due("5 YEARS: not more than 35", x.odds(0, 35, 30, 1), 0);
        CHECK.due("w 999", x.odds(0, 999, 30, 1), 0);
        same("all", x, all);
        CHECK.due("what can be undone", x.undo(), 0);
        CHECK.due("no FLIGHTS", Check.valleyOf("hill a 0 0;man m a 0 0;").odds(0, 0, 1, 1), -1);
        CHECK.due("no MEN", Check.valleyOf("hill a 0 0;flight 1 0;").odds(0, 0, 1, 1), -1);
        CHECK.about("Promise 37: seeds x, x and 1, .. beyond the greatest int, too");
        CuckooShares y = Check.valleyOf("wheat 1;hill a 0 0;hill b 9 0;man m a 0 0;flight 1 0 0 0 0;flight 2 0;");
        int sum = 0;
        for (int i = 0; i < 30; i++) {
            sum += y.odds(0, 0, 1, Integer.MAX_VALUE - 14 + i);
        }
        CHECK.due("one by one, and all", y.odds(0, 0, 30, Integer.MAX_VALUE - 14), sum);
        CHECK.due("not all, not none", sum > 0 && sum < 30, true);
        CHECK.about("Promise 37: as drawn() would draw");
        for (int seed = -3; seed < 12; seed++) {
            CuckooShares z = Check.valleyOf("wheat 1;hill a 0 0;hill b 9 0;man m a 0 0;flight 1 0 0 0 0;flight 2 0;");
            int more = z.odds(0, 1, 1, seed);
            z.drawn(5, seed);
            CHECK.due("the seed " + seed, more, z.man(0, 6) > 1 ? 1 : 0);
        }
        CHECK.about("Promise 37: 5 YEARS, or as many as can go by");
        x.drawn(40, 1);
        x.drawn(40, 1);
        x.drawn(16, 1);
        CHECK.due("YEAR 96", x.now(0), 96);
        CHECK.due("3 YEARS: more than 20", x.odds(0, 20, 3, 1), 3);
        CHECK.due("3 YEARS: not more than 21", x.odds(0, 21, 3, 1), 0);
        x.drawn(3, 1);
        CHECK.due("no YEARS: not more than 0", x.odds(0, 0, 3, 1), 0);
    }

    private static void rollJudged() {
        CHECK.about("Promise 38: it is judged, all staying as it is (lives 0): the LINE that is WRONG; NONE: none");
        CuckooShares x = at(4);
        String all = Check.allOf(x);
        all = all.substring(0, all.indexOf("; rolled"));
        String[] texts = {"", "hour 9;m swears 0;shares;", "comes 0;", "hour 1;hour 1;m moves c;", "m swears 0;".repeat(2) + "shares;"};
        int[] wrong = {-1, -1, 0, 2, 1};
        for (int i = 0; i < texts.length; i++) {
            CHECK.due("roll(0) of " + texts[i], Check.roll(x, texts[i], 0), wrong[i]);
            String now = Check.allOf(x);
            CHECK.due("all behind " + texts[i], now.substring(0, now.indexOf("; rolled")), all);
        }
        CHECK.due("what can be undone", x.undo(), 1);
        CHECK.about("Promise 38: the 40th LINE can be WRONG");
        CHECK.due("roll(0)", Check.roll(x, "hour 1;".repeat(39) + "m calls m;", 0), 39);
    }

    private static void rollLived() {
        CHECK.about("Promise 38: or lived as far as it is not WRONG (1)");
        CuckooShares x = land();
        CHECK.due("roll(1)", Check.roll(x, "m moves b;comes 0;hour 4;m swears 1;m swears 0;shares;", 1), 4);
        CHECK.due("m is on b", x.man(0, 0), 1);
        CHECK.due("he has sworn", x.man(0, 5), 1);
        CHECK.due("the HOUR", x.now(2), 4);
        CHECK.due("not shared", x.now(0), 0);
        CHECK.due("roll(1)", Check.roll(x, "shares;", 1), -1);
        CHECK.due("shared", x.man(0, 6), 10);
        CHECK.due("WRONG at once", Check.roll(x, "shares;comes 0;", 1), 0);
        CHECK.due("nothing is lived behind it", x.now(1), -1);
        CHECK.about("Promise 38: -2 less the place of a FAULT: nothing is lived ahead of it");
        CHECK.due("roll(1)", Check.roll(x, "comes 0;hour 4;hour 0;", 1), -22);
        CHECK.due("now(1)", x.now(1), -1);
        CHECK.due("now(2)", x.now(2), 0);
    }

    private static void rollRefused() {
        CHECK.about("Promise 38: -1000: another lives (the tape stays)");
        CuckooShares x = at(4);
        Check.roll(x, "shares;", 0);
        Check.valley(x, "#");
        Check.put(x, "hour 7;");
        String all = Check.allOf(x);
        for (int lives : andFarOut(2)) {
            CHECK.due("roll(" + lives + ")", x.roll(lives), -1000);
        }
        same("all", x, all);
        CHECK.due("the tape", x.count(5), 7);
        CHECK.due("roll(1) of it", x.roll(1), -1);
        CHECK.due("now(2)", x.now(2), 11);
    }

    private static void rolled() {
        CHECK.about("Promise 39: NONE: another what, or ahead of any");
        CuckooShares x = at(4);
        for (int what = -1; what < 5; what++) {
            CHECK.due("rolled(" + what + ") ahead of any", x.rolled(what), -1);
        }
        Check.roll(x, "hour 0;", 0);
        CHECK.due("a FAULT", x.rolled(0), -1);
        Check.roll(x, "hour 1;", 3);
        CHECK.due("another lives", x.rolled(0), -1);
        Check.roll(x, "m swears 0;o swears 0;shares;shares;", 0);
        int[] rolled = {41, 3, 1, 9};
        for (int what = 0; what < 4; what++) {
            CHECK.due("rolled(" + what + ")", x.rolled(what), rolled[what]);
        }
        for (int what : andFarOut(4)) {
            CHECK.due("rolled(" + what + ")", x.rolled(what), -1);
        }
        CHECK.about("Promise 39: of the latest roll() that had no FAULT (and was not -1000)");
        Check.roll(x, "shares", 1);
        Check.roll(x, "shares;", 2);
        for (int what = 0; what < 4; what++) {
            CHECK.due("rolled(" + what + ")", x.rolled(what), rolled[what]);
        }
        Check.roll(x, "", 0);
        for (int what = 0; what < 4; what++) {
            CHECK.due("rolled(" + what + ") of an empty one", x.rolled(what), 0);
        }
        CHECK.about("Promise 39: 1 LINES that are not: all 40");
        Check.roll(x, "hour 1;".repeat(40), 0);
        CHECK.due("rolled(1)", x.rolled(1), 40);
        CHECK.about("Promise 39: 2 the YEAR then, 3 by how much all stores are more");
        x.swear(0, 0);
        x.share();
        CHECK.due("roll(1)", Check.roll(x, "comes 0;hour 4;m swears 0;shares;comes 1;shares;", 1), -1);
        CHECK.due("the YEAR then", x.rolled(2), 3);
        CHECK.due("more, not all", x.rolled(3), 10);
    }

    private static void why(CuckooShares x, String text, int line, int why) {
        CHECK.due("roll(0) of " + text, Check.roll(x, text, 0), line);
        CHECK.due("rolled(0) of " + text, x.rolled(0), why);
        CHECK.due("rolled(1) of " + text, x.rolled(1), line);
    }

    private static void rolledWhy() {
        CHECK.about("Promise 39: 0 why it was WRONG (as for coming; 9: there is no such FLIGHT)");
        CuckooShares x = Check.valleyOf(LAND + "man q c 0 0;");
        why(x, "comes 0;comes 1;", 1, 1);
        why(x, "comes 2;", 0, 9);
        why(x, "comes 0;comes 3;", 1, 9);
        CHECK.about("Promise 39: 10 more as for moving");
        why(x, "m moves a;", 0, 11);
        why(x, "comes 0;hour 2;m moves b;", 2, 12);
        CHECK.about("Promise 39: 20 for swearing");
        why(x, "comes 0;hour 4;m swears 0;m swears 0;", 3, 21);
        why(x, "comes 0;m swears 0;", 1, 22);
        why(x, "comes 0;hour 4;q swears 0;", 2, 23);
        CHECK.about("Promise 39: 30 for calling, 39: alike");
        why(x, "comes 0;hour 4;m calls n;", 2, 31);
        why(x, "comes 0;hour 4;m swears 0;n calls m;", 3, 32);
        why(x, "comes 0;hour 4;p swears 0;m swears 0;m calls p;", 4, 33);
        why(x, "comes 0;hour 4;m swears 0;p swears 0;m swears 1;", 4, 21);
        why(x, "comes 0;hour 4;p swears 1;n swears 0;o calls p;p calls n;", 5, 32);
        why(x, "m calls m;", 0, 39);
        why(x, "comes 0;hour 4;m swears 0;m calls m;", 3, 39);
        CuckooShares y = Check.valleyOf("hill a 0 0;hill b 5 0;man m a 0 0;man n b 0 1;flight 1 0 0 0 0;");
        why(y, "comes 0;n swears 0;m calls n;", 2, 34);
        CHECK.about("Promise 39: 40 for sharing");
        why(x, "shares;", 0, 41);
        x.drawn(40, 1);
        x.drawn(40, 1);
        x.drawn(18, 1);
        why(x, "comes 1;shares;comes 1;shares;", 3, 42);
        CHECK.due("the YEAR then", x.rolled(2), 99);
    }

    // ---- promises 40 to 44

    private static void sentence() {
        CHECK.about("Promise 40: how many ONES (each not, bracket and other one)");
        CuckooShares x = land();
        CHECK.due("one", Check.sentence(x, "old"), 1);
        CHECK.due("not", Check.sentence(x, "not old"), 2);
        CHECK.due("bracket", Check.sentence(x, "(old)"), 2);
        CHECK.due("all", Check.sentence(x, "not (not old or (deaf)) and on a"), 7);
        CHECK.about("Promise 40: -1 less the place of a FAULT: it stays");
        Check.sentence(x, "old");
        CHECK.due("a FAULT at the end", Check.sentence(x, "not old and"), -12);
        CHECK.due("it stays", x.said(0), 2);
        CHECK.due("a FAULT at once", Check.sentence(x, ""), -1);
        CHECK.due("it stays", x.said(-1), 1);
        CHECK.due("no SENTENCE, and a FAULT", Check.sentence(new CuckooShares(), "old old"), -5);
    }

    private static void said() {
        CHECK.about("Promise 41: MEN of whom it may be said: how many (k NONE), or the k-th. NONE: there is no SENTENCE, none such");
        CuckooShares x = land();
        CHECK.due("no SENTENCE: how many", x.said(-1), -1);
        CHECK.due("no SENTENCE: the first", x.said(0), -1);
        Check.sentence(x, "old and");
        CHECK.due("a FAULT is no SENTENCE", x.said(-1), -1);
        Check.sentence(x, "not old");
        int[] men = {0, 1, 3};
        CHECK.due("how many", x.said(-1), 3);
        for (int k = 0; k < 3; k++) {
            CHECK.due("said(" + k + ")", x.said(k), men[k]);
        }
        CHECK.due("none such", x.said(3), -1);
        for (int k : FAR_OUT) {
            CHECK.due("said(" + k + ")", x.said(k), k == -1 ? 3 : -1);
        }
        Check.sentence(x, "old and not old");
        CHECK.due("of nobody: how many", x.said(-1), 0);
        CHECK.due("of nobody: the first", x.said(0), -1);
        CuckooShares empty = new CuckooShares();
        Check.sentence(empty, "not old");
        CHECK.due("no MEN: how many", empty.said(-1), 0);
        CHECK.due("no MEN: the first", empty.said(0), -1);
        CHECK.about("Promise 41: SIGN: < = >, just so, one more, one less");
        Check.sentence(x, "coin<2");
        CHECK.due("coin<2: p", x.said(-1), 1);
        Check.sentence(x, "coin=2");
        CHECK.due("coin=2: n, o", x.said(-1), 2);
        Check.sentence(x, "coin>2");
        CHECK.due("coin>2: m", x.said(-1), 1);
        Check.sentence(x, "store=0 and ear<10 and number>2");
        CHECK.due("the last MAN", x.said(0), 3);
        CHECK.about("Promise 41: 'heard' (some CALL so far)");
        Check.sentence(x, "heard");
        CHECK.due("no FLIGHT", x.said(-1), 0);
        x.comes(0);
        x.hours(1);
        CHECK.due("just ahead of the first CALL", x.said(-1), 0);
        x.hours(1);
        CHECK.due("in its HOUR", x.said(-1), 1);
        x.hours(50);
        CHECK.due("the CALLS ahead count, too", x.said(0), 0);
        x.share();
        CHECK.due("the year is over", x.said(-1), 0);
    }

    private static void image() {
        CHECK.about("Promise 42: kept in place k (0, 1): true; false: no such one");
        CuckooShares x = land();
        for (int k : andFarOut(2)) {
            CHECK.due("image(" + k + ")", x.image(k), false);
        }
        CHECK.due("nothing is kept", x.restore(0) || x.restore(1), false);
        CHECK.due("image(0)", x.image(0), true);
        x.hours(5);
        CHECK.due("image(1)", x.image(1), true);
        x.hours(7);
        CHECK.due("restore(0)", x.restore(0), true);
        CHECK.due("now(2)", x.now(2), 0);
        CHECK.due("restore(1)", x.restore(1), true);
        CHECK.due("now(2)", x.now(2), 5);
        x.hours(1);
        CHECK.due("image(0) once more", x.image(0), true);
        x.hours(1);
        x.restore(0);
        CHECK.due("the newer one", x.now(2), 6);
        CHECK.due("image() leaves what can be undone", x.undo(), -1);
        x.hours(1);
        x.image(1);
        CHECK.due("image() leaves what can be undone", x.undo(), 0);
        CHECK.about("Promise 42: VALLEY, all that is so and the SENTENCE");
        CuckooShares y = at(4);
        y.swear(0, 1);
        y.share();
        y.comes(0);
        y.hours(4);
        y.swear(1, 0);
        Check.sentence(y, "on b");
        String all = Check.allOf(y);
        y.image(0);
        Check.valley(y, "wheat 1;hill z 9 9;man y z 1 1;");
        y.image(1);
        y.restore(0);
        same("all", y, all);
        CHECK.due("names", Check.roll(y, "m moves b;", 0), 0);
        y.restore(1);
        CHECK.due("the other VALLEY", y.count(4), 1);
        CHECK.due("its names", Check.roll(y, "y moves z;", 0), 0);
        CHECK.due("no SENTENCE there", y.said(-1), -1);
    }

    private static void restore() {
        CHECK.about("Promise 43: false: no such one, or nothing is kept there");
        CuckooShares x = at(4);
        String all = Check.allOf(x);
        for (int k : andFarOut(0, 1, 2)) {
            CHECK.due("restore(" + k + ")", x.restore(k), false);
        }
        same("all", x, all);
        CHECK.due("what can be undone", x.undo(), 1);
        x.image(1);
        CHECK.due("restore(0)", x.restore(0), false);
        CHECK.about("Promise 43: (the tape, and what other calls told last, stays; nothing can be undone)");
        Check.roll(x, "comes 1;shares;shares;", 0);
        x.hut(0);
        Check.valley(x, "ridge 21;");
        Check.put(x, "ridge 1;");
        x.hours(3);
        int[] told = {x.rolled(0), x.rolled(1), x.rolled(2), x.rolled(3), x.better(0), x.better(1)};
        CHECK.due("restore(1)", x.restore(1), true);
        int[] then = {x.rolled(0), x.rolled(1), x.rolled(2), x.rolled(3), x.better(0), x.better(1)};
        CHECK.due("rolled(), better()", Arrays.toString(then), Arrays.toString(told));
        CHECK.due("fault()", x.fault(), 2);
        CHECK.due("the tape", x.count(5), 8);
        CHECK.due("now(2)", x.now(2), 0);
        CHECK.due("undo()", x.undo(), -1);
        CHECK.due("restore(1) once more", x.restore(1), true);
        CHECK.due("valley() of the tape", x.valley(), 1);
        CHECK.due("an image outlives a VALLEY", x.restore(1), true);
        CHECK.due("count(1)", x.count(1), 4);
        CHECK.about("Promise 43: an image of an empty VALLEY");
        CuckooShares y = new CuckooShares();
        String empty = Check.allOf(y);
        y.image(0);
        Check.valley(y, LAND);
        y.comes(0);
        CHECK.due("restore(0)", y.restore(0), true);
        same("all", y, empty);
    }

    private static void count() {
        CHECK.about("Promise 44: NONE for another what");
        CuckooShares x = land();
        x.feed(0, 0, 0, 0, 0);
        x.end(19);
        int[] counts = {3, 4, 2, 3, 10, 19};
        for (int what = 0; what < 6; what++) {
            CHECK.due("count(" + what + ")", x.count(what), counts[what]);
        }
        for (int what : andFarOut(6)) {
            CHECK.due("count(" + what + ")", x.count(what), -1);
        }
        CHECK.due("all CHANCES", Check.valleyOf("flight 9 0;".repeat(4)).count(3), 36);
    }

    // ---- all at once

    /** All that there may be: every HILL, MAN, FLIGHT and CALL; all MEN hear all CALLS. */
    private static String full() {
        StringBuilder text = new StringBuilder();
        for (int h = 0; h < 8; h++) {
            text.append("hill ").append((char) ('a' + h)).append(' ').append(h).append(" 0;");
        }
        for (int m = 0; m < 8; m++) {
            text.append("man ").append((char) ('m' + m)).append(' ').append((char) ('a' + m)).append(" 9 9;");
        }
        for (int f = 0; f < 4; f++) {
            text.append("flight 9 20");
            for (int k = 0; k < 10; k++) {
                text.append(' ').append(10 * k + 9).append(" 0 0");
            }
            text.append(';');
        }
        return text.toString();
    }

    private static void fullValley() {
        CHECK.about("8 HILLS, 8 MEN, 4 FLIGHTS at most, 10 CALLS: all of them, by every call");
        CuckooShares x = Check.valleyOf(full());
        for (int n = 0; n < 8; n++) {
            CHECK.due("hill(" + n + ", 4)", x.hill(n, 4), 1 << n);
            CHECK.due("far(" + n + ", 3, 9)", x.far(n, 3, 9), n);
            CHECK.due("hears(" + n + ", 3, 9)", x.hears(n, 3, 9), 1);
            CHECK.due("honest(" + n + ", 3)", x.honest(n, 3), 12);
            CHECK.due("mean(" + n + ", 0)", x.mean(n, 0), 12);
            CHECK.due("mean(" + n + ", 1)", x.mean(n, 1), 1);
            CHECK.due("beside(" + n + ")", x.beside(n), 0);
            CHECK.due("hut(" + n + ")", x.hut(n), 0);
            CHECK.due("odds(" + n + ")", x.odds(n, 59, 2, 1), 2);
            CHECK.due("not more than 60", x.odds(n, 60, 2, 1), 0);
        }
        CHECK.due("who(3, 9)", x.who(3, 9), 255);
        CHECK.due("call(3, 9, 0)", x.call(3, 9, 0), 99);
        CHECK.due("count(3)", x.count(3), 36);
        CHECK.due("poor()", x.poor(), 0);
        CHECK.due("crowded()", x.crowded(), 0);
        CHECK.due("swaps(-1)", x.swaps(-1), 0);
        CHECK.due("enough(3)", x.enough(3), 0);
        CHECK.due("least(3)", x.least(3), 0);
        CHECK.due("whence() of the last MAN, HOUR 99", Check.whence(x, 7, 99), 15);
        CHECK.due("comes(3)", x.comes(3), 0);
        CHECK.due("hours(99)", x.hours(99), 99);
        CHECK.due("now(3)", x.now(3), 10);
        for (int m = 0; m < 8; m++) {
            CHECK.due("swear(" + m + ", 9)", x.swear(m, 9), 0);
            CHECK.due("due(" + m + ")", x.due(m), 99 * 3 / (3 * (m + 1)));
        }
        CHECK.due("now(4)", x.now(4), 255);
        CHECK.due("now(5)", x.now(5), 64);
        CHECK.due("lied()", x.lied(), 0);
        CHECK.due("nearer(7)", x.nearer(7), 0);
        CHECK.due("the same CALL", x.accuse(0, 7), 3);
        Check.sentence(x, "sworn and heard and on h");
        CHECK.due("said(0)", x.said(0), 7);
        x.image(1);
        CHECK.due("share()", x.share(), 0);
        CHECK.due("now(6)", x.now(6), 96);
        CHECK.due("drawn(1, 1)", x.drawn(1, 1), 1);
        CHECK.due("now(6)", x.now(6), 192);
        CHECK.due("restore(1)", x.restore(1), true);
        CHECK.due("now(6)", x.now(6), 0);
        CHECK.due("a ROLL of the last ones", Check.roll(x, "shares;t moves a;comes 3;hour 99;t swears 9;m calls t;", 1), 5);
        CHECK.due("m and t are as FAR", x.rolled(0), 32);
        CHECK.due("now(6)", x.now(6), 96);
    }

    private static void fullLie() {
        CHECK.about("8 MEN: the last one lies, all others could call his oath");
        StringBuilder text = new StringBuilder("flight 1 0 0 0 0;");
        for (int m = 0; m < 8; m++) {
            text.append("hill ").append((char) ('a' + m)).append(' ').append(m).append(" 0;");
            text.append("man ").append((char) ('m' + m)).append(' ').append((char) ('a' + m)).append(" 0 1;");
        }
        CuckooShares x = Check.valleyOf(text.toString());
        x.comes(0);
        x.swear(7, 0);
        CHECK.due("lied()", x.lied(), 128);
        CHECK.due("nearer(7)", x.nearer(7), 127);
        CHECK.due("accuse(6, 7)", x.accuse(6, 7), 0);
        CHECK.due("it is struck", x.now(4), 0);
        CHECK.due("nearer(7)", x.nearer(7), 0);
    }

    private static void fullOfFalls() {
        CHECK.about("8 MEN: all deaf, all old, all with needs; 8 HILLS: all with falls");
        StringBuilder text = new StringBuilder(full().substring(0, full().indexOf("flight")));
        for (int n = 0; n < 8; n++) {
            text.append("fall ").append((char) ('a' + n)).append(" 9;");
            text.append("old ").append((char) ('m' + n)).append(";needs ").append((char) ('m' + n)).append(" 0;");
            text.append("deaf ").append((char) ('m' + n)).append(' ').append((char) ('m' + (n + 1) % 8)).append(';');
        }
        CuckooShares x = Check.valleyOf(text + "ridge 20;wheat 999;wind west 9;flight 9 20 99 20 20;");
        CHECK.due("nobody hears", x.who(0, 0), 0);
        CHECK.due("poor()", x.poor(), 255);
        CHECK.due("enough(0)", x.enough(0), 255);
        CHECK.due("least(0)", x.least(0), -1);
        CHECK.due("man(7, 4)", x.man(7, 4), 0);
        CHECK.due("the last FALL again", Check.valley(x, text + "fall h 9;"), -1 - text.length() - 5);
        CHECK.due("the last MAN again", Check.valley(x, text + "old t;"), -1 - text.length() - 4);
    }

    private static void smallerValley() {
        CHECK.about("Promise 4: the tape is the VALLEY now: of the one ahead nothing is left");
        String[] small = {"", "flight 1 0;", "hill a 2 2;man m a 1 1;", "hill a 2 2;hill b 4 4;man m a 1 1;man n b 0 2;flight 1 1 0 2 3;flight 2 0;"};
        for (String text : small) {
            CuckooShares x = Check.valleyOf("ridge 2;wheat 500;wind south 9;" + full() + "fall a 9;fall b 9;old m;deaf n m;needs m 7;needs n 8;");
            x.comes(3);
            x.hours(99);
            for (int m = 0; m < 8; m++) {
                x.swear(m, m);
            }
            x.poor();
            x.crowded();
            x.swaps(-1);
            x.share();
            x.drawn(3, 1);
            x.comes(2);
            x.hours(50);
            x.swear(1, 1);
            CuckooShares y = new CuckooShares();
            Check.valley(x, text);
            Check.valley(y, text);
            CHECK.due("all answers of " + text, Check.allAnswers(x), Check.allAnswers(y));
            x.drawn(2, 3);
            y.drawn(2, 3);
            CHECK.due("all behind drawn()", Check.allOf(x), Check.allOf(y));
            x.image(0);
            Check.valley(x, full());
            x.poor();
            CHECK.due("restore(0)", x.restore(0), true);
            CHECK.due("all behind restore()", Check.allOf(x), Check.allOf(y));
            CHECK.due("poor() behind restore()", x.poor(), y.poor());
        }
    }
}
