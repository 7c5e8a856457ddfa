import java.util.ArrayDeque;
import java.util.ArrayList;
import java.util.Arrays;
import java.util.Deque;
import java.util.HashSet;
import java.util.List;
import java.util.NoSuchElementException;
import java.util.Set;

/** The document read once more, plainly and slowly: every call works all out anew from what is told. */
final class Model {
    static final int NONE = -1;
    private static final Set<String> RESERVED = new HashSet<>(Arrays.asList(
        "ridge", "wheat", "wind", "north", "east", "south", "west", "hill", "fall", "man", "old", "deaf", "needs",
        "flight", "comes", "hour", "moves", "swears", "calls", "shares", "or", "and", "not", "sworn", "lied", "on",
        "heard", "coin", "store", "ear", "number"));

    static final class Hill {
        String name;
        int x;
        int y;
        Integer fall;
    }

    static final class Man {
        String name;
        int home;
        int ear;
        int coin;
        boolean old;
        int by = NONE;
        int needs = NONE;
    }

    static final class Flight {
        int chance;
        int loud;
        final List<int[]> calls = new ArrayList<>();
    }

    static final class Land {
        Integer ridge;
        Integer wheat;
        String wind;
        int windForce;
        final List<Hill> hills = new ArrayList<>();
        final List<Man> men = new ArrayList<>();
        final List<Flight> flights = new ArrayList<>();

        int valleyOf(int x) {
            return ridge != null && x > ridge ? 1 : 0;
        }
    }

    static final class State {
        int year;
        int flight = NONE;
        int hour;
        int[] hill = new int[8];
        int[] coins = new int[8];
        int[] sworn = new int[8];
        int[] store = new int[8];

        State copy() {
            State s = new State();
            s.year = year;
            s.flight = flight;
            s.hour = hour;
            s.hill = hill.clone();
            s.coins = coins.clone();
            s.sworn = sworn.clone();
            s.store = store.clone();
            return s;
        }
    }

    /** A FAULT found while a text is read. */
    static final class Fault extends RuntimeException {
        private static final long serialVersionUID = 1;
        final int kind;
        final int place;

        Fault(int kind, int place) {
            this.kind = kind;
            this.place = place;
        }
    }

    static final class Token {
        String text;
        int place;
        char sort; // w word, n number, s sign, e end, x none
    }

    interface Cond {
        boolean of(int m);
    }

    interface Where {
        int[] of(int m); // X, Y, FALL
    }

    private StringBuilder tape = new StringBuilder();
    private Land land = new Land();
    private State now = new State();
    private Cond said;
    private final Deque<State> undos = new ArrayDeque<>();
    private final Object[][] images = new Object[2][];
    private int fault;
    private int[] better;
    private int[] rolled;

    private List<Token> tokens;
    private int at;

    // ---- texts

    private void scan(int most) {
        tokens = new ArrayList<>();
        at = 0;
        String text = tape.toString();
        int i = 0;
        while (true) {
            while (i < text.length() && (text.charAt(i) == 32 || text.charAt(i) == 10)) {
                i++;
            }
            Token t = new Token();
            t.place = i;
            if (i >= Math.min(most, text.length())) {
                t.sort = text.length() > most ? 'x' : 'e';
                t.place = text.length() > most ? most : text.length();
                t.text = "";
                tokens.add(t);
                return;
            }
            int j = i;
            while (j < text.length() && (text.charAt(j) + "").matches("[a-z0-9]")) {
                j++;
            }
            if (j == i) {
                j++;
            }
            t.text = text.substring(i, j);
            t.sort = t.text.matches("[a-z]{1,7}") ? 'w' : t.text.matches("[0-9]{1,3}") ? 'n'
                : t.text.matches("[;<=>()]") ? 's' : 'x';
            tokens.add(t);
            i = j;
        }
    }

    private Token here() {
        return tokens.get(at);
    }

    private boolean is(String text) {
        return here().sort != 'x' && here().sort != 'e' && here().text.equals(text);
    }

    private void want(boolean good, int kind) {
        if (!good) {
            throw new Fault(kind, here().place);
        }
    }

    private String word(String... ones) {
        for (String one : ones) {
            if (is(one)) {
                at++;
                return one;
            }
        }
        throw new Fault(1, here().place);
    }

    private int number(int low, int high) {
        want(here().sort == 'n', 1);
        int n = Integer.parseInt(here().text);
        want(n >= low && n <= high, 2);
        at++;
        return n;
    }

    private static int hillOf(Land l, String name) {
        for (int i = 0; i < l.hills.size(); i++) {
            if (l.hills.get(i).name.equals(name)) {
                return i;
            }
        }
        return NONE;
    }

    private static int manOf(Land l, String name) {
        for (int i = 0; i < l.men.size(); i++) {
            if (l.men.get(i).name.equals(name)) {
                return i;
            }
        }
        return NONE;
    }

    private String newName(Land l) {
        want(here().sort == 'w' && !RESERVED.contains(here().text), 1);
        want(hillOf(l, here().text) == NONE && manOf(l, here().text) == NONE, 3);
        return tokens.get(at++).text;
    }

    private int hillName(Land l) {
        want(here().sort == 'w' && !RESERVED.contains(here().text), 1);
        int h = hillOf(l, here().text);
        want(h != NONE, 3);
        return h;
    }

    private int manName(Land l) {
        want(here().sort == 'w' && !RESERVED.contains(here().text), 1);
        int m = manOf(l, here().text);
        want(m != NONE, 3);
        return m;
    }

    private int readLand(Land l) {
        int lines = 0;
        while (here().sort != 'e') {
            landLine(l);
            word(";");
            lines++;
        }
        return lines;
    }

    private void landLine(Land l) {
        if (is("ridge")) {
            want(l.ridge == null, 3);
            at++;
            l.ridge = number(0, 20);
        } else if (is("wheat")) {
            want(l.wheat == null, 3);
            at++;
            l.wheat = number(0, 999);
        } else if (is("wind")) {
            want(l.wind == null, 3);
            at++;
            l.wind = word("north", "east", "south", "west");
            l.windForce = number(0, 9);
        } else if (is("hill")) {
            want(l.hills.size() < 8, 4);
            at++;
            Hill h = new Hill();
            h.name = newName(l);
            h.x = number(0, 20);
            h.y = number(0, 20);
            l.hills.add(h);
        } else if (is("fall")) {
            at++;
            Hill h = l.hills.get(hillName(l));
            want(h.fall == null, 3);
            at++;
            h.fall = number(0, 9);
        } else if (is("man")) {
            want(l.men.size() < 8, 4);
            at++;
            Man m = new Man();
            m.name = newName(l);
            m.home = hillName(l);
            at++;
            m.ear = number(0, 9);
            m.coin = number(0, 9);
            l.men.add(m);
        } else if (is("old")) {
            at++;
            Man m = l.men.get(manName(l));
            want(!m.old, 3);
            at++;
            m.old = true;
        } else if (is("deaf")) {
            at++;
            Man m = l.men.get(manName(l));
            want(m.by == NONE, 3);
            at++;
            int by = manName(l);
            want(l.men.get(by) != m, 3);
            at++;
            m.by = by;
        } else if (is("needs")) {
            at++;
            Man m = l.men.get(manName(l));
            want(m.needs == NONE, 3);
            at++;
            m.needs = number(0, 999);
        } else if (is("flight")) {
            want(l.flights.size() < 4, 4);
            at++;
            Flight f = new Flight();
            f.chance = number(1, 9);
            f.loud = number(0, 20);
            while (here().sort == 'n') {
                want(f.calls.size() < 10, 4);
                int from = f.calls.isEmpty() ? 0 : f.calls.get(f.calls.size() - 1)[0] + 1;
                f.calls.add(new int[] {number(from, 99), number(0, 20), number(0, 20)});
            }
            l.flights.add(f);
        } else {
            want(false, 1);
        }
    }

    int feed(int... words) {
        if (tape.length() + 20 > 940) {
            return NONE;
        }
        for (int w : words) {
            tape.append((char) (w >>> 24)).append((char) (w >>> 16 & 255)).append((char) (w >>> 8 & 255))
                .append((char) (w & 255));
        }
        return tape.length();
    }

    boolean end(int n) {
        if (n < 0 || n > tape.length()) {
            return false;
        }
        tape.setLength(n);
        return true;
    }

    int valley() {
        scan(900);
        tape.setLength(0);
        fault = 0;
        Land l = new Land();
        int lines;
        try {
            lines = readLand(l);
        } catch (Fault f) {
            fault = f.kind;
            return -1 - f.place;
        }
        land = l;
        now = new State();
        Arrays.fill(now.sworn, NONE);
        for (int m = 0; m < l.men.size(); m++) {
            now.hill[m] = l.men.get(m).home;
            now.coins[m] = l.men.get(m).coin;
        }
        said = null;
        undos.clear();
        return lines;
    }

    int fault() {
        return fault;
    }

    // ---- what is told

    private boolean hasHill(int h) {
        return h >= 0 && h < land.hills.size();
    }

    private boolean hasMan(int m) {
        return m >= 0 && m < land.men.size();
    }

    private boolean hasFlight(int f) {
        return f >= 0 && f < land.flights.size();
    }

    private boolean hasCall(int f, int k) {
        return hasFlight(f) && k >= 0 && k < land.flights.get(f).calls.size();
    }

    private int bits(Cond cond) {
        int bits = 0;
        for (int m = 0; m < land.men.size(); m++) {
            bits += cond.of(m) ? 1 << m : 0;
        }
        return bits;
    }

    private int wheat() {
        return land.wheat == null ? 99 : land.wheat;
    }

    private int chances() {
        return land.flights.stream().mapToInt(f -> f.chance).sum();
    }

    int hill(int h, int what) {
        if (!hasHill(h) || what < 0 || what > 4) {
            return NONE;
        }
        Hill one = land.hills.get(h);
        return new int[] {one.x, one.y, one.fall == null ? 0 : one.fall, land.valleyOf(one.x),
            bits(m -> now.hill[m] == h)}[what];
    }

    int man(int m, int what) {
        if (!hasMan(m) || what < 0 || what > 7) {
            throw new NoSuchElementException();
        }
        Man one = land.men.get(m);
        return new int[] {now.hill[m], one.ear, now.coins[m], one.old ? 1 : 0, one.by, now.sworn[m], now.store[m],
            one.needs}[what];
    }

    int flight(int f, int what) {
        if (!hasFlight(f) || what < 0 || what > 2) {
            return NONE;
        }
        Flight one = land.flights.get(f);
        return new int[] {one.chance, one.loud, one.calls.size()}[what];
    }

    int call(int f, int k, int what) {
        if (!hasCall(f, k) || what < 0 || what > 3) {
            return NONE;
        }
        int[] one = land.flights.get(f).calls.get(k);
        return what == 3 ? land.valleyOf(one[1]) : one[what];
    }

    private int past(State s) {
        return s.flight == NONE ? 0
            : (int) land.flights.get(s.flight).calls.stream().filter(c -> c[0] <= s.hour).count();
    }

    private int sum(int[] row) {
        int all = 0;
        for (int m = 0; m < land.men.size(); m++) {
            all += row[m];
        }
        return all;
    }

    int now(int what) {
        if (what < 0 || what > 6) {
            return NONE;
        }
        return new int[] {now.year, now.flight, now.hour, past(now), bits(m -> now.sworn[m] != NONE),
            sum(now.coins), sum(now.store)}[what];
    }

    int count(int what) {
        if (what < 0 || what > 5) {
            return NONE;
        }
        return new int[] {land.hills.size(), land.men.size(), land.flights.size(), chances(), wheat(),
            tape.length()}[what];
    }

    // ---- hearing

    private Where onHills(State s) {
        return m -> {
            Hill h = land.hills.get(s.hill[m]);
            return new int[] {h.x, h.y, h.fall == null ? 0 : h.fall};
        };
    }

    private boolean hear(int m, int f, int k, Where where) {
        int ears = m;
        if (land.men.get(m).by != NONE) {
            ears = land.men.get(m).by;
            if (land.men.get(ears).by != NONE) {
                return false;
            }
        }
        int[] place = where.of(ears);
        int[] bird = land.flights.get(f).calls.get(k);
        int range = land.men.get(ears).ear + land.flights.get(f).loud - place[2];
        if (land.wind != null) {
            boolean that = land.wind.equals("north") && place[1] < bird[2] || land.wind.equals("south") && place[1] > bird[2]
                || land.wind.equals("east") && place[0] > bird[1] || land.wind.equals("west") && place[0] < bird[1];
            range += that ? land.windForce : 0;
        }
        range -= land.valleyOf(place[0]) != land.valleyOf(bird[1]) ? 3 : 0;
        return Math.abs(place[0] - bird[1]) + Math.abs(place[1] - bird[2]) <= range;
    }

    int far(int m, int f, int k) {
        if (!hasMan(m) || !hasCall(f, k)) {
            return NONE;
        }
        return far(now, m, f, k);
    }

    private int far(State s, int m, int f, int k) {
        int[] place = onHills(s).of(m);
        int[] bird = land.flights.get(f).calls.get(k);
        return Math.abs(place[0] - bird[1]) + Math.abs(place[1] - bird[2]);
    }

    int hears(int m, int f, int k) {
        return !hasMan(m) || !hasCall(f, k) ? NONE : hear(m, f, k, onHills(now)) ? 1 : 0;
    }

    int who(int f, int k) {
        return !hasCall(f, k) ? NONE : bits(m -> hear(m, f, k, onHills(now)));
    }

    private int first(int f, int valley, Where where) {
        for (int k = 0; k < land.flights.get(f).calls.size(); k++) {
            for (int m = 0; m < land.men.size(); m++) {
                if (land.valleyOf(where.of(m)[0]) == valley && hear(m, f, k, where)) {
                    return k;
                }
            }
        }
        return NONE;
    }

    int first(int f, int valley) {
        return !hasFlight(f) || valley < 0 || valley > 1 ? NONE : first(f, valley, onHills(now));
    }

    /** The CALL to which each would swear; NONE. */
    private int[] honestOaths(int f, Where where) {
        int[] oaths = new int[8];
        for (int m = 0; m < land.men.size(); m++) {
            int k = first(f, land.valleyOf(where.of(m)[0]), where);
            oaths[m] = k != NONE && hear(m, f, k, where) ? k : NONE;
        }
        return oaths;
    }

    /** Of each MAN: the CALL that is shared in his valley, the weights there; null if he has no weight. */
    private int[] basis(int m, int[] oaths, Where where) {
        int valley = land.valleyOf(where.of(m)[0]);
        int k = 99;
        for (int o = 0; o < land.men.size(); o++) {
            if (land.valleyOf(where.of(o)[0]) == valley && oaths[o] != NONE) {
                k = Math.min(k, oaths[o]);
            }
        }
        if (oaths[m] == NONE || oaths[m] != k) {
            return null;
        }
        int all = 0;
        for (int o = 0; o < land.men.size(); o++) {
            if (land.valleyOf(where.of(o)[0]) == valley && oaths[o] == k) {
                all += land.men.get(o).old ? 1 : 3;
            }
        }
        return new int[] {k, all};
    }

    private int share(int m, int[] oaths, Where where, int wheat) {
        int[] basis = basis(m, oaths, where);
        if (basis == null) {
            return 0;
        }
        return (basis[0] == 8 ? wheat / 2 : wheat) * (land.men.get(m).old ? 1 : 3) / basis[1];
    }

    // ---- acts

    private void keep(State s) {
        undos.addLast(s);
        if (undos.size() > 8) {
            undos.removeFirst();
        }
    }

    private int done(int why, State was) {
        if (why == 0) {
            keep(was);
        }
        return why;
    }

    private int comes(State s, int f) {
        if (s.flight != NONE) {
            return 1;
        }
        s.flight = f;
        return 0;
    }

    int comes(int f) {
        State was = now.copy();
        return !hasFlight(f) ? NONE : done(comes(now, f), was);
    }

    int hours(int n) {
        if (n < 1 || n > 99) {
            return NONE;
        }
        keep(now.copy());
        return now.hour = Math.min(99, now.hour + n);
    }

    private int move(State s, int m, int h) {
        if (s.hill[m] == h) {
            return 1;
        }
        if (past(s) > 0) {
            return 2;
        }
        s.hill[m] = h;
        return 0;
    }

    int move(int m, int h) {
        State was = now.copy();
        return !hasMan(m) || !hasHill(h) ? NONE : done(move(now, m, h), was);
    }

    private int swear(State s, int m, int k) {
        if (s.sworn[m] != NONE) {
            return 1;
        }
        if (k >= past(s)) {
            return 2;
        }
        if (s.coins[m] == 0) {
            return 3;
        }
        s.coins[m]--;
        s.sworn[m] = k;
        return 0;
    }

    int swear(int m, int k) {
        State was = now.copy();
        return !hasMan(m) || k < 0 || k > 9 ? NONE : done(swear(now, m, k), was);
    }

    private int accuse(State s, int m, int o) {
        if (s.sworn[o] == NONE) {
            return 1;
        }
        if (far(s, m, s.flight, s.sworn[o]) >= far(s, o, s.flight, s.sworn[o])) {
            return 2;
        }
        if (s.sworn[m] == s.sworn[o]) {
            return 3;
        }
        if (s.coins[m] == 0) {
            return 4;
        }
        if (hear(o, s.flight, s.sworn[o], onHills(s))) {
            s.coins[m]--;
        } else {
            s.sworn[o] = NONE;
        }
        return 0;
    }

    int accuse(int m, int o) {
        State was = now.copy();
        return !hasMan(m) || !hasMan(o) || m == o ? NONE : done(accuse(now, m, o), was);
    }

    private void yearOver(State s) {
        s.year++;
        s.flight = NONE;
        s.hour = 0;
        Arrays.fill(s.sworn, NONE);
    }

    private int share(State s) {
        if (s.flight == NONE) {
            return 1;
        }
        if (s.year == 99) {
            return 2;
        }
        for (int m = 0; m < land.men.size(); m++) {
            s.store[m] += share(m, s.sworn, onHills(s), wheat());
        }
        yearOver(s);
        return 0;
    }

    int share() {
        State was = now.copy();
        return done(share(now), was);
    }

    int undo() {
        if (undos.isEmpty()) {
            return NONE;
        }
        now = undos.removeLast();
        return undos.size();
    }

    // ---- questions

    private boolean lied(int m) {
        return now.sworn[m] != NONE && !hear(m, now.flight, now.sworn[m], onHills(now));
    }

    int lied() {
        return bits(this::lied);
    }

    int nearer(int m) {
        return !hasMan(m) ? NONE : bits(o -> {
            State s = now.copy();
            return o != m && now.sworn[m] != NONE && accuse(s, o, m) == 0 && s.sworn[m] == NONE;
        });
    }

    int due(int m) {
        return !hasMan(m) || now.flight == NONE ? NONE : share(m, now.sworn, onHills(now), wheat());
    }

    private int honest(int m, int f, Where where, int wheat) {
        return share(m, honestOaths(f, where), where, wheat);
    }

    int honest(int m, int f) {
        return !hasMan(m) || !hasFlight(f) ? NONE : honest(m, f, onHills(now), wheat());
    }

    private int[] mean(int m, Where where) {
        int above = 0;
        for (int f = 0; f < land.flights.size(); f++) {
            above += land.flights.get(f).chance * honest(m, f, where, wheat());
        }
        int below = chances();
        for (int d = below; d > 1; d--) {
            if (above % d == 0 && below % d == 0) {
                return new int[] {above / d, below / d};
            }
        }
        return new int[] {above, below};
    }

    private static boolean more(int[] a, int[] b) {
        return (long) a[0] * b[1] > (long) b[0] * a[1];
    }

    int mean(int m, int what) {
        if (!hasMan(m) || land.flights.isEmpty() || what < 0 || what > 1) {
            throw new NoSuchElementException();
        }
        return mean(m, onHills(now))[what];
    }

    private Where but(int m, int[] place) {
        return o -> o == m ? place : onHills(now).of(o);
    }

    int beside(int m) {
        if (!hasMan(m) || land.flights.isEmpty()) {
            return NONE;
        }
        int best = NONE;
        for (int h = 0; h < land.hills.size(); h++) {
            State s = now.copy();
            s.hill[m] = h;
            int[] mean = mean(m, onHills(s));
            if (best == NONE || more(mean, better)) {
                best = h;
                better = mean;
            }
        }
        return best;
    }

    int hut(int m) {
        if (!hasMan(m) || land.flights.isEmpty()) {
            return NONE;
        }
        int best = NONE;
        for (int i = 0; i < 21 * 21; i++) {
            int[] mean = mean(m, but(m, new int[] {i % 21, i / 21, 0}));
            if (best == NONE || more(mean, better)) {
                best = 100 * (i / 21) + i % 21;
                better = mean;
            }
        }
        return best;
    }

    int better(int what) {
        if (better == null || what < 0 || what > 1) {
            throw new NoSuchElementException();
        }
        return better[what];
    }

    int whence() {
        String t = tape.toString();
        tape.setLength(0);
        if (t.length() < 2 || t.length() > 40 || t.length() % 2 == 1) {
            return NONE;
        }
        int flights = (1 << land.flights.size()) - 1;
        for (int i = 0; i < t.length(); i += 2) {
            if (!hasMan(t.charAt(i)) || t.charAt(i + 1) > 99) {
                return NONE;
            }
            for (int f = 0; f < land.flights.size(); f++) {
                boolean can = false;
                for (int k = 0; k < land.flights.get(f).calls.size(); k++) {
                    can |= land.flights.get(f).calls.get(k)[0] == t.charAt(i + 1) && hear(t.charAt(i), f, k, onHills(now));
                }
                flights &= can ? -1 : ~(1 << f);
            }
        }
        return flights;
    }

    int enough(int f) {
        return !hasFlight(f) ? NONE : bits(m -> land.men.get(m).needs != NONE && honest(m, f) >= land.men.get(m).needs);
    }

    int least(int f) {
        if (!hasFlight(f)) {
            return NONE;
        }
        Where where = onHills(now);
        int[] oaths = honestOaths(f, where);
        int sharers = bits(m -> basis(m, oaths, where) != null);
        for (int w = 0; w <= 999 && sharers != 0; w++) {
            int wheat = w;
            int content = bits(m -> (sharers >> m & 1) == 1 && share(m, oaths, where, wheat) >= Math.max(0, land.men.get(m).needs));
            if (content == sharers) {
                return w;
            }
        }
        return NONE;
    }

    int poor() {
        return bits(m -> {
            for (int f = 0; f < land.flights.size(); f++) {
                for (int k = 0; k < land.flights.get(f).calls.size(); k++) {
                    if (hear(m, f, k, onHills(now))) {
                        return false;
                    }
                }
            }
            return true;
        });
    }

    int crowded() {
        int best = NONE;
        int most = -1;
        for (int f = 0; f < land.flights.size(); f++) {
            int[] oaths = honestOaths(f, onHills(now));
            int n = Integer.bitCount(bits(m -> oaths[m] != NONE));
            if (n > most) {
                most = n;
                best = f;
            }
        }
        return best;
    }

    int swaps(int k) {
        if (land.flights.isEmpty()) {
            return NONE;
        }
        List<Integer> pairs = new ArrayList<>();
        for (int a = 0; a < land.men.size(); a++) {
            for (int b = a + 1; b < land.men.size(); b++) {
                State s = now.copy();
                s.hill[a] = now.hill[b];
                s.hill[b] = now.hill[a];
                if (more(mean(a, onHills(s)), mean(a, onHills(now))) && more(mean(b, onHills(s)), mean(b, onHills(now)))) {
                    pairs.add(10 * a + b);
                }
            }
        }
        return k == NONE ? pairs.size() : k < 0 || k >= pairs.size() ? NONE : pairs.get(k);
    }

    // ---- draws

    private int x;

    private int draw(int n) {
        x = x * 1103515245 + 12345;
        return (x >>> 8) % n;
    }

    private int years(State s, int n, int seed) {
        x = seed;
        int went = 0;
        for (; went < n && s.year < 99; went++) {
            for (int m = 0; m < land.men.size(); m++) {
                if (draw(4) == 0) {
                    move(s, m, draw(land.hills.size()));
                }
            }
            int d = draw(chances());
            List<Integer> lots = new ArrayList<>();
            for (int f = 0; f < land.flights.size(); f++) {
                for (int i = 0; i < land.flights.get(f).chance; i++) {
                    lots.add(f);
                }
            }
            for (int m = 0; m < land.men.size(); m++) {
                s.store[m] += honest(m, lots.get(d), onHills(s), wheat());
            }
            yearOver(s);
        }
        return went;
    }

    int drawn(int n, int seed) {
        if (n < 1 || n > 40 || land.hills.isEmpty() || land.flights.isEmpty()) {
            return NONE;
        }
        State was = now.copy();
        int went = years(now, n, seed);
        if (went > 0) {
            keep(was);
        }
        return went;
    }

    int odds(int m, int w, int n, int seed) {
        if (!hasMan(m) || w < 0 || w > 999 || n < 1 || n > 30 || land.flights.isEmpty()) {
            return NONE;
        }
        int times = 0;
        for (int i = 0; i < n; i++) {
            State s = now.copy();
            years(s, 5, seed + i);
            times += s.store[m] > now.store[m] + w ? 1 : 0;
        }
        return times;
    }

    // ---- rolls and sentences

    private List<String[]> readRoll() {
        List<String[]> lines = new ArrayList<>();
        while (here().sort != 'e') {
            boolean plain = is("comes") || is("hour") || is("shares");
            if (!plain) {
                manName(land);
            }
            want(lines.size() < 40, 4);
            String first = tokens.get(at++).text;
            String[] line = {first, "", "0"};
            if (first.equals("comes")) {
                line[2] = "" + number(0, 3);
            } else if (first.equals("hour")) {
                line[2] = "" + number(1, 99);
            } else if (!first.equals("shares")) {
                line[1] = word("moves", "swears", "calls");
                if (line[1].equals("swears")) {
                    line[2] = "" + number(0, 9);
                } else {
                    line[2] = "" + (line[1].equals("moves") ? hillName(land) : manName(land));
                    at++;
                }
            }
            word(";");
            lines.add(line);
        }
        return lines;
    }

    private int why(State s, String[] line) {
        int n = Integer.parseInt(line[2]);
        int m = manOf(land, line[0]);
        switch (line[0] + " " + line[1]) {
            case "comes ":
                return hasFlight(n) ? comes(s, n) : 9;
            case "hour ":
                s.hour = Math.min(99, s.hour + n);
                return 0;
            case "shares ":
                int why = share(s);
                return why == 0 ? 0 : 40 + why;
            default:
                break;
        }
        if (line[1].equals("calls") && m == n) {
            return 39;
        }
        int why = line[1].equals("moves") ? move(s, m, n) : line[1].equals("swears") ? swear(s, m, n) : accuse(s, m, n);
        int tens = line[1].equals("moves") ? 10 : line[1].equals("swears") ? 20 : 30;
        return why == 0 ? 0 : tens + why;
    }

    int roll(int lives) {
        if (lives < 0 || lives > 1) {
            return -1000;
        }
        scan(400);
        tape.setLength(0);
        fault = 0;
        List<String[]> lines;
        try {
            lines = readRoll();
        } catch (Fault f) {
            fault = f.kind;
            return -2 - f.place;
        }
        State s = now.copy();
        int wrong = NONE;
        int why = 0;
        int good = 0;
        for (int i = 0; i < lines.size() && why == 0; i++) {
            why = why(s, lines.get(i));
            wrong = why == 0 ? NONE : i;
            good += why == 0 ? 1 : 0;
        }
        rolled = new int[] {why, good, s.year, sum(s.store) - sum(now.store)};
        if (lives == 1) {
            keep(now);
            now = s;
        }
        return wrong;
    }

    int rolled(int what) {
        return rolled == null || what < 0 || what > 3 ? NONE : rolled[what];
    }

    private int ones;

    private Cond cond(int depth) {
        Cond left = all(depth);
        while (is("or")) {
            at++;
            Cond l = left;
            Cond r = all(depth);
            left = m -> l.of(m) || r.of(m);
        }
        return left;
    }

    private Cond all(int depth) {
        Cond left = one(depth);
        while (is("and")) {
            at++;
            Cond l = left;
            Cond r = one(depth);
            left = m -> l.of(m) && r.of(m);
        }
        return left;
    }

    private Cond one(int depth) {
        String[] begins = {"not", "(", "old", "deaf", "sworn", "lied", "on", "heard", "coin", "store", "ear", "number"};
        want(Arrays.asList(begins).contains(here().text), 1);
        want(++ones <= 20 && depth <= 8, 4);
        String word = tokens.get(at++).text;
        switch (word) {
            case "not":
                Cond c = one(depth + 1);
                return m -> !c.of(m);
            case "(":
                Cond in = cond(depth + 1);
                word(")");
                return in;
            case "old":
                return m -> land.men.get(m).old;
            case "deaf":
                return m -> land.men.get(m).by != NONE;
            case "sworn":
                return m -> now.sworn[m] != NONE;
            case "lied":
                return this::lied;
            case "heard":
                return m -> {
                    boolean any = false;
                    for (int k = 0; k < past(now); k++) {
                        any |= hear(m, now.flight, k, onHills(now));
                    }
                    return any;
                };
            case "on":
                int h = hillName(land);
                at++;
                return m -> now.hill[m] == h;
            default:
                String sign = word("<", "=", ">");
                int n = number(0, 999);
                return m -> {
                    int v = word.equals("coin") ? now.coins[m] : word.equals("store") ? now.store[m]
                        : word.equals("ear") ? land.men.get(m).ear : m;
                    return sign.equals("<") ? v < n : sign.equals(">") ? v > n : v == n;
                };
        }
    }

    int sentence() {
        scan(200);
        tape.setLength(0);
        fault = 0;
        ones = 0;
        try {
            Cond c = cond(1);
            want(here().sort == 'e', 1);
            said = c;
            return ones;
        } catch (Fault f) {
            fault = f.kind;
            return -1 - f.place;
        }
    }

    int said(int k) {
        if (said == null) {
            return NONE;
        }
        List<Integer> men = new ArrayList<>();
        for (int m = 0; m < land.men.size(); m++) {
            if (said.of(m)) {
                men.add(m);
            }
        }
        return k == NONE ? men.size() : k < 0 || k >= men.size() ? NONE : men.get(k);
    }

    boolean image(int k) {
        if (k < 0 || k > 1) {
            return false;
        }
        images[k] = new Object[] {land, now.copy(), said};
        return true;
    }

    boolean restore(int k) {
        if (k < 0 || k > 1 || images[k] == null) {
            return false;
        }
        land = (Land) images[k][0];
        now = ((State) images[k][1]).copy();
        said = (Cond) images[k][2];
        undos.clear();
        return true;
    }
}
