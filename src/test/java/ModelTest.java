import java.util.Random;

/** Runs of drawn calls on the class and on the model: every answer must be the same, and nothing else thrown. */
public final class ModelTest {
    private static final int RUNS = 1500;
    private static final int CALLS = 200;
    private static final String[] NAMES = {"a", "b", "c", "d", "e", "f", "g", "h", "i", "j", "k", "l", "m", "n", "o", "p", "q", "ridge", "on"};
    private static final int[] ODD = {-2, -1, 98, 99, 100, 1000, Integer.MAX_VALUE, Integer.MIN_VALUE, 8, 9, 10, 40, 41, 31};

    private final Check check;
    private final Random random;
    private final CuckooShares x = new CuckooShares();
    private final Model model = new Model();
    private final StringBuilder told = new StringBuilder();
    private int hills;
    private int men;
    private boolean good = true;

    private ModelTest(Check check, long seed) {
        this.check = check;
        this.random = new Random(seed);
    }

    public static void main(String[] args) {
        Check check = new Check();
        int runs = args.length > 0 ? Integer.parseInt(args[0]) : RUNS;
        long from = args.length > 1 ? Long.parseLong(args[1]) : 0;
        for (long seed = from; seed < from + runs; seed++) {
            new ModelTest(check, seed).run(seed);
        }
        check.end();
    }

    private void run(long seed) {
        for (int i = 0; i < CALLS && good; i++) {
            if (i == 0 || random.nextInt(60) == 0) {
                text(valleyText(), 'v');
            } else {
                one(random.nextInt(54));
            }
        }
        if (!good) {
            System.out.println("seed " + seed + ":\n" + told);
        }
    }

    private void same(String call, Check.Call got, Check.Call want) {
        long due = Check.answer(want);
        long answered = Check.answer(got);
        told.append("  ").append(call).append(" -> ").append(answered).append('\n');
        check.due(call, answered, due);
        good &= answered == due;
    }

    private int any(int most) {
        return random.nextInt(25) == 0 ? ODD[random.nextInt(ODD.length)] : random.nextInt(most);
    }

    private int in(int below) {
        return random.nextInt(below);
    }

    // ---- texts

    private String valleyText() {
        StringBuilder t = new StringBuilder();
        hills = 0;
        men = 0;
        boolean plain = told.length() == 0 || in(4) > 0;
        int hillsWanted = 1 + in(in(3) == 0 ? 8 : 4);
        int menWanted = in(5) == 0 ? in(9) : 3 + in(3);
        int flightsWanted = in(8) == 0 ? in(6) : 1 + in(4);
        int ridge = in(21);
        if (in(4) > 0) {
            t.append("ridge ").append(ridge).append(';');
        }
        if (in(3) > 0) {
            t.append("wheat ").append(in(4) == 0 ? in(1000) : in(60)).append(';');
        }
        if (in(2) > 0) {
            t.append("wind ").append(new String[] {"north", "east", "south", "west"}[in(4)]).append(' ').append(in(10)).append(";\n");
        }
        for (int h = 0; h < hillsWanted; h++) {
            t.append("hill ").append(NAMES[h]).append(' ').append(in(21)).append(' ').append(in(8)).append(';');
            hills++;
            if (in(3) == 0) {
                t.append("fall ").append(NAMES[h]).append(' ').append(in(5)).append(';');
            }
        }
        for (int m = 0; m < menWanted; m++) {
            t.append("man ").append(NAMES[8 + m]).append(' ').append(NAMES[in(hillsWanted)]).append(' ').append(in(10)).append(' ')
                .append(in(3) == 0 ? 9 : in(4)).append(';');
            men++;
            if (in(4) == 0) {
                t.append("old ").append(NAMES[8 + m]).append("; ");
            }
            if (in(3) == 0) {
                t.append("needs ").append(NAMES[8 + m]).append(' ').append(in(3) == 0 ? in(1000) : in(30)).append(';');
            }
        }
        for (int m = 0; m < menWanted && menWanted > 1; m++) {
            if (in(5) == 0) {
                int by = in(menWanted);
                if (by != m || !plain) {
                    t.append("deaf ").append(NAMES[8 + m]).append(' ').append(NAMES[8 + by]).append(";");
                }
            }
        }
        for (int f = 0; f < flightsWanted; f++) {
            t.append("flight ").append(1 + in(9)).append(' ').append(in(21));
            int calls = in(4) == 0 ? in(12) : in(4);
            int hour = in(3);
            for (int k = 0; k < calls; k++) {
                t.append(' ').append(hour).append(' ').append(in(21)).append(' ').append(in(8));
                hour += 1 + in(3);
            }
            t.append(";");
        }
        return plain ? t.toString() : spoil(t);
    }

    private String spoil(StringBuilder t) {
        int times = in(3);
        for (int i = 0; i < times && t.length() > 0; i++) {
            int at = in(t.length());
            String signs = "abz019;<=>() \n.A{~\u00e9";
            switch (in(5)) {
                case 0:
                    t.deleteCharAt(at);
                    break;
                case 1:
                    t.insert(at, signs.charAt(in(signs.length())));
                    break;
                case 2:
                    t.setCharAt(at, signs.charAt(in(signs.length())));
                    break;
                case 3:
                    t.setLength(at);
                    break;
                default:
                    int to = Math.min(t.length(), at + in(40));
                    t.append(t.substring(at, to));
                    break;
            }
        }
        if (in(10) == 0) {
            int at = in(t.length() + 1);
            int many = in(900);
            for (int i = 0; i < many; i++) {
                t.insert(at, in(2) == 0 ? ' ' : '\n');
            }
        }
        if (t.length() > 940) {
            t.setLength(940);
        }
        return t.toString();
    }

    private String name(int from, int told) {
        return in(40) == 0 || told == 0 ? NAMES[in(NAMES.length)] : NAMES[from + in(told)];
    }

    private String rollText() {
        StringBuilder t = new StringBuilder();
        int lines = in(12) == 0 ? 38 + in(5) : in(12);
        for (int i = 0; i < lines; i++) {
            switch (in(9)) {
                case 0:
                case 1:
                    t.append("comes ").append(in(4)).append(';');
                    break;
                case 2:
                case 3:
                    t.append("hour ").append(in(20) == 0 ? in(102) : 1 + in(8)).append(';');
                    break;
                case 4:
                    t.append(name(8, men)).append(" moves ").append(name(0, hills)).append("; ");
                    break;
                case 5:
                case 6:
                    t.append(name(8, men)).append(" swears ").append(in(30) == 0 ? in(12) : in(3)).append(";");
                    break;
                case 7:
                    t.append(name(8, men)).append(" calls ").append(name(8, men)).append(";");
                    break;
                default:
                    t.append("shares;");
                    break;
            }
        }
        return in(4) > 0 ? t.toString() : spoil(t);
    }

    private void cond(StringBuilder t, int depth) {
        one(t, depth);
        for (int i = 0; i < 3 && in(3) == 0; i++) {
            t.append(in(2) == 0 ? " and " : " or ");
            one(t, depth);
        }
    }

    private void one(StringBuilder t, int depth) {
        int kind = depth > 9 ? 3 : in(12);
        if (kind <= 1) {
            t.append("not ");
            one(t, depth + 1);
        } else if (kind == 2) {
            t.append('(');
            cond(t, depth + 1);
            t.append(')');
        } else if (kind <= 7) {
            t.append(new String[] {"old", "deaf", "sworn", "lied", "heard"}[in(5)]);
        } else if (kind == 8) {
            t.append("on ").append(name(0, hills));
        } else {
            t.append(new String[] {"coin", "store", "ear", "number"}[in(4)]).append("<=>".charAt(in(3))).append(in(4) == 0 ? in(100) : in(5));
        }
    }

    private String sentenceText() {
        StringBuilder t = new StringBuilder();
        int wrapped = in(6) == 0 ? in(11) : 0;
        for (int i = 0; i < wrapped; i++) {
            t.append(i % 2 == 0 ? "(" : "not ");
        }
        cond(t, 0);
        for (int i = (wrapped + 1) / 2; i > 0; i--) {
            t.append(")");
        }
        if (in(15) == 0) {
            for (int i = 0; i < 19; i++) {
                t.append(in(2) == 0 ? " and old" : " or lied");
            }
        }
        return in(4) > 0 ? t.toString() : spoil(t);
    }

    private void text(String text, char kind) {
        told.append(text).append('\n');
        same("end(0)", () -> x.end(0) ? 1 : 0, () -> model.end(0) ? 1 : 0);
        for (int from = 0; from < text.length(); from += 20) {
            int[] w = new int[5];
            for (int i = 0; i < 20; i++) {
                w[i / 4] = w[i / 4] << 8 | (from + i < text.length() ? text.charAt(from + i) : 0);
            }
            same("feed", () -> x.feed(w[0], w[1], w[2], w[3], w[4]), () -> model.feed(w));
        }
        same("end", () -> x.end(text.length()) ? 1 : 0, () -> model.end(text.length()) ? 1 : 0);
        int lives = in(20) == 0 ? 2 : in(2);
        switch (kind) {
            case 'v':
                same("valley()", x::valley, model::valley);
                break;
            case 'r':
                same("roll(" + lives + ")", () -> x.roll(lives), () -> model.roll(lives));
                for (int i = -1; i <= 4; i++) {
                    int what = i;
                    same("rolled(" + what + ")", () -> x.rolled(what), () -> model.rolled(what));
                }
                break;
            case 's':
                same("sentence()", x::sentence, model::sentence);
                for (int i = -2; i <= 8; i++) {
                    int k = i;
                    same("said(" + k + ")", () -> x.said(k), () -> model.said(k));
                }
                break;
            default:
                same("whence()", x::whence, model::whence);
                break;
        }
        same("fault()", x::fault, model::fault);
        same("count(5)", () -> x.count(5), () -> model.count(5));
        all();
    }

    private void all() {
        for (int what = 0; what <= 6; what++) {
            int w = what;
            same("now(" + w + ")", () -> x.now(w), () -> model.now(w));
        }
        for (int i = 0; i < 64; i++) {
            int m = i / 8;
            int w = i % 8;
            same("man(" + m + "," + w + ")", () -> x.man(m, w), () -> model.man(m, w));
        }
    }

    // ---- calls

    private void one(int kind) {
        int a = any(in(6) == 0 ? 8 : Math.max(1, men));
        int b = any(in(3) == 0 ? 8 : Math.max(1, men));
        int f = any(in(3) == 0 ? 4 : 2);
        int k = any(in(3) == 0 ? 5 : 2);
        int what = any(8);
        String args = "(" + a + "," + b + " f " + f + " k " + k + " what " + what + ")";
        switch (kind) {
            case 0: same("hill" + args, () -> x.hill(a, what), () -> model.hill(a, what)); break;
            case 1: same("man" + args, () -> x.man(a, what), () -> model.man(a, what)); break;
            case 2: same("flight" + args, () -> x.flight(f, what), () -> model.flight(f, what)); break;
            case 3: same("call" + args, () -> x.call(f, k, what), () -> model.call(f, k, what)); break;
            case 4: same("now" + args, () -> x.now(what), () -> model.now(what)); break;
            case 5: case 6: same("comes" + args, () -> x.comes(f), () -> model.comes(f)); break;
            case 7: case 8: same("hours" + args, () -> x.hours(b), () -> model.hours(b)); break;
            case 9: same("move" + args, () -> x.move(a, b), () -> model.move(a, b)); break;
            case 10: case 11: case 12: same("swear" + args, () -> x.swear(a, k), () -> model.swear(a, k)); break;
            case 13: case 14: same("accuse" + args, () -> x.accuse(a, b), () -> model.accuse(a, b)); break;
            case 15: same("share()", x::share, model::share); all(); break;
            case 16: same("undo()", x::undo, model::undo); all(); break;
            case 17: same("far" + args, () -> x.far(a, f, k), () -> model.far(a, f, k)); break;
            case 18: same("hears" + args, () -> x.hears(a, f, k), () -> model.hears(a, f, k)); break;
            case 19: same("who" + args, () -> x.who(f, k), () -> model.who(f, k)); break;
            case 20: same("first" + args, () -> x.first(f, b % 3), () -> model.first(f, b % 3)); break;
            case 21: same("lied()", x::lied, model::lied); break;
            case 22: same("nearer" + args, () -> x.nearer(a), () -> model.nearer(a)); break;
            case 23: same("due" + args, () -> x.due(a), () -> model.due(a)); break;
            case 24: same("honest" + args, () -> x.honest(a, f), () -> model.honest(a, f)); break;
            case 25: same("mean" + args, () -> x.mean(a, b % 3), () -> model.mean(a, b % 3)); break;
            case 26: case 27: same("beside" + args, () -> x.beside(a), () -> model.beside(a)); best(); break;
            case 28: if (in(6) == 0) { same("hut" + args, () -> x.hut(a), () -> model.hut(a)); best(); } break;
            case 29: same("better" + args, () -> x.better(b % 3), () -> model.better(b % 3)); break;
            case 30: case 31: text(pairs(), 'w'); break;
            case 32: same("enough" + args, () -> x.enough(f), () -> model.enough(f)); break;
            case 33: case 34: same("least" + args, () -> x.least(f), () -> model.least(f)); break;
            case 35: same("poor()", x::poor, model::poor); break;
            case 36: same("crowded()", x::crowded, model::crowded); break;
            case 37: case 38: same("swaps" + args, () -> x.swaps(b - 2), () -> model.swaps(b - 2)); break;
            case 39: {
                int n = in(4) == 0 ? any(42) : 1 + in(4);
                int seed = random.nextInt();
                same("drawn(" + n + "," + seed + ")", () -> x.drawn(n, seed), () -> model.drawn(n, seed));
                all();
                break;
            }
            case 40: {
                int n = any(32);
                int w = in(2) == 0 ? any(1001) : any(100);
                int seed = in(3) == 0 ? Integer.MAX_VALUE : random.nextInt();
                same("odds" + args + n + "," + w + "," + seed, () -> x.odds(a, w, n, seed), () -> model.odds(a, w, n, seed));
                break;
            }
            case 41: case 42: text(rollText(), 'r'); break;
            case 43: case 44: text(sentenceText(), 's'); break;
            case 45: same("said" + args, () -> x.said(b - 1), () -> model.said(b - 1)); break;
            case 46: if (in(3) == 0) { same("image" + args, () -> x.image(b % 3) ? 1 : 0, () -> model.image(b % 3) ? 1 : 0); } break;
            case 47: if (in(3) == 0) { same("restore" + args, () -> x.restore(b % 3) ? 1 : 0, () -> model.restore(b % 3) ? 1 : 0); all(); } break;
            case 48: same("count" + args, () -> x.count(what), () -> model.count(what)); break;
            case 49: same("fault()", x::fault, model::fault); break;
            case 50: same("rolled" + args, () -> x.rolled(what), () -> model.rolled(what)); break;
            case 51: same("swaps(-1)", () -> x.swaps(-1), () -> model.swaps(-1)); break;
            default: season(); break;
        }
    }

    /** A year in which much is sworn and called, for single calls seldom come so far. */
    private void season() {
        int f = in(4);
        same("comes(" + f + ")", () -> x.comes(f), () -> model.comes(f));
        same("hours(30)", () -> x.hours(30), () -> model.hours(30));
        for (int i = 0; i < 2 * men; i++) {
            int m = in(men);
            int o = in(men);
            int k = in(in(3) == 0 ? 10 : 3);
            if (in(2) == 0) {
                same("swear(" + m + "," + k + ")", () -> x.swear(m, k), () -> model.swear(m, k));
            } else {
                same("nearer(" + o + ")", () -> x.nearer(o), () -> model.nearer(o));
                same("accuse(" + m + "," + o + ")", () -> x.accuse(m, o), () -> model.accuse(m, o));
            }
            same("lied()", x::lied, model::lied);
            same("due(" + o + ")", () -> x.due(o), () -> model.due(o));
        }
        if (in(2) == 0) {
            same("share()", x::share, model::share);
        }
        all();
    }

    private void best() {
        same("better(0)", () -> x.better(0), () -> model.better(0));
        same("better(1)", () -> x.better(1), () -> model.better(1));
    }

    private String pairs() {
        StringBuilder t = new StringBuilder();
        int n = in(10) == 0 ? in(50) : 2 * (1 + in(2));
        for (int i = 0; i < n; i++) {
            t.append((char) (i % 2 == 0 ? in(men == 0 ? 1 : men) : in(30) == 0 ? in(256) : in(10)));
        }
        return t.toString();
    }
}
