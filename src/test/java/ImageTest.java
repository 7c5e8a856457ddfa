/** Promises 42 and 43: images. */
public final class ImageTest {
    private static final Check CHECK = new Check();
    private static final String VALLEY = "ridge 10;wheat 10;hill a 0 0;hill b 5 0;hill c 15 0;"
        + "man m a 9 2;man n b 0 1;man o b 1 1;man p c 9 0;old o;deaf p m;flight 1 1 2 1 0 4 6 0;flight 2 0;";

    public static void main(String[] args) {
        places();
        all();
        others();
        CHECK.end();
    }

    private static void places() {
        CuckooShares x = new CuckooShares();
        int[] none = {-1, 2, Integer.MAX_VALUE, Integer.MIN_VALUE};
        for (int k : none) {
            CHECK.due("image(" + k + ")", x.image(k), false);
            CHECK.due("restore(" + k + ")", x.restore(k), false);
        }
        CHECK.due("restore(0)", x.restore(0), false);
        CHECK.due("restore(1)", x.restore(1), false);
        CHECK.due("image(1)", x.image(1), true);
        CHECK.due("restore(0)", x.restore(0), false);
        CHECK.due("restore(1)", x.restore(1), true);
    }

    private static void all() {
        CuckooShares x = Check.valleyOf(VALLEY);
        Check.sentence(x, "on b");
        x.comes(0);
        x.hours(4);
        x.swear(1, 0);
        x.image(0);
        x.swear(0, 1);
        x.share();
        x.move(1, 0);
        Check.sentence(x, "old");
        x.image(1);
        Check.valley(x, "wheat 3;hill h 1 1;man z h 1 1;");
        CHECK.due("images outlive a VALLEY", x.restore(0), true);
        int[] nows = {0, 0, 4, 2, 2, 3, 0};
        for (int what = 0; what < nows.length; what++) {
            CHECK.due("now(" + what + ")", x.now(what), nows[what]);
        }
        int[] counts = {3, 4, 2, 3, 10, 0};
        for (int what = 0; what < counts.length; what++) {
            CHECK.due("count(" + what + ")", x.count(what), counts[what]);
        }
        CHECK.due("man(1, 5)", x.man(1, 5), 0);
        CHECK.due("hears(3, 0, 0)", x.hears(3, 0, 0), 1);
        CHECK.due("call(0, 1, 1)", x.call(0, 1, 1), 6);
        CHECK.due("said(-1)", x.said(-1), 2);
        CHECK.due("names are back", Check.sentence(x, "on c"), 1);
        CHECK.due("nothing can be undone", x.undo(), -1);
        CHECK.due("restore(1)", x.restore(1), true);
        CHECK.due("YEAR 1", x.now(0), 1);
        CHECK.due("n is on a", x.man(1, 0), 0);
        CHECK.due("n's store", x.man(1, 6), 10);
        CHECK.due("said(0)", x.said(0), 2);
        x.hours(3);
        CHECK.due("restore(1) again", x.restore(1), true);
        CHECK.due("an act behind an image does not change it", x.now(2), 0);
        CHECK.due("nor can it be undone", x.undo(), -1);
    }

    private static void others() {
        CuckooShares x = Check.valleyOf(VALLEY);
        x.image(0);
        CHECK.due("beside(0)", x.beside(0) >= 0, true);
        int above = x.better(0);
        Check.roll(x, "hour 5;shares;", 0);
        Check.sentence(x, "on");
        x.feed(1, 2, 3, 4, 5);
        x.hours(1);
        CHECK.due("a place without an image", x.restore(1), false);
        CHECK.due("changes nothing", x.undo(), 0);
        CHECK.due("restore(0)", x.restore(0), true);
        CHECK.due("the tape stays", x.count(5), 20);
        CHECK.due("fault() stays", x.fault(), 1);
        CHECK.due("rolled(0) stays", x.rolled(0), 41);
        CHECK.due("better(0) stays", x.better(0), above);
        CHECK.due("no SENTENCE was kept", x.said(-1), -1);
    }
}
