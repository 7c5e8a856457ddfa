import java.util.NoSuchElementException;

/** Shares of wheat by the first cuckoo; what each call answers is told in the document, promise by promise. */
public final class CuckooShares {
    public static final int NONE = -1;

    private static final int TAPE_MOST = 940;
    private static final int VALLEY_MOST = 900;
    private static final int ROLL_MOST = 400;
    private static final int SENTENCE_MOST = 200;
    private static final int HILLS_MOST = 8;
    private static final int MEN_MOST = 8;
    private static final int FLIGHTS_MOST = 4;
    private static final int CALLS_MOST = 10;
    private static final int LINES_MOST = 40;
    private static final int ONES_MOST = 20;
    private static final int WITHIN_MOST = 8;
    private static final int CODE_MOST = 40;
    private static final int UNDO_MOST = 8;
    private static final int IMAGES = 2;

    private static final int PLACE_MOST = 20;
    private static final int WHEAT_MOST = 999;
    private static final int NEEDS_MOST = 999;
    private static final int HOUR_MOST = 99;
    private static final int YEAR_MOST = 99;
    private static final int WHEAT_UNTOLD = 99;
    private static final int RIDGE_LESS = 3;
    private static final int WEIGHT = 3;
    private static final int WEIGHT_OLD = 1;
    private static final int HALF_CALL = 8;
    private static final int YEARS_MOST = 40;
    private static final int ODDS_YEARS = 5;
    private static final int SEEDS_MOST = 30;
    private static final int WHENCE_MOST = 40;
    private static final int ANOTHER_LIVES = -1000;

    private static final int FAULT_TOKEN = 1;
    private static final int FAULT_NUMBER = 2;
    private static final int FAULT_NAME = 3;
    private static final int FAULT_MANY = 4;

    private static final int WRONG_FLIGHT = 9;
    private static final int WRONG_MOVE = 10;
    private static final int WRONG_OATH = 20;
    private static final int WRONG_CALL = 30;
    private static final int WRONG_ALIKE = 39;
    private static final int WRONG_SHARE = 40;

    // Every word stands in seven signs: a word's number is its place in these rows, one row behind the other.
    private static final int WORD_MOST = 7;
    private static final String VALLEY_WORDS =
        "ridge  wheat  wind   north  east   south  west   hill   fall   man    old    deaf   needs  flight ";
    private static final String ROLL_WORDS = "comes  hour   moves  swears calls  shares ";
    private static final String SENTENCE_WORDS =
        "or     and    not    sworn  lied   on     heard  coin   store  ear    number ";
    private static final int ROLL_WORDS_FROM = 14;
    private static final int SENTENCE_WORDS_FROM = 20;

    private static final int W_RIDGE = 0;
    private static final int W_WHEAT = 1;
    private static final int W_WIND = 2;
    private static final int W_NORTH = 3;
    private static final int W_EAST = 4;
    private static final int W_SOUTH = 5;
    private static final int W_WEST = 6;
    private static final int W_HILL = 7;
    private static final int W_FALL = 8;
    private static final int W_MAN = 9;
    private static final int W_OLD = 10;
    private static final int W_DEAF = 11;
    private static final int W_NEEDS = 12;
    private static final int W_FLIGHT = 13;
    private static final int W_COMES = 14;
    private static final int W_HOUR = 15;
    private static final int W_MOVES = 16;
    private static final int W_SWEARS = 17;
    private static final int W_CALLS = 18;
    private static final int W_SHARES = 19;
    private static final int W_OR = 20;
    private static final int W_AND = 21;
    private static final int W_NOT = 22;
    private static final int W_SWORN = 23;
    private static final int W_LIED = 24;
    private static final int W_ON = 25;
    private static final int W_HEARD = 26;
    private static final int W_COIN = 27;
    private static final int W_STORE = 28;
    private static final int W_EAR = 29;
    private static final int W_NUMBER = 30;

    private static final int SEMICOLON = 40;
    private static final int LESS = 41;
    private static final int EQUAL = 42;
    private static final int MORE = 43;
    private static final int OPEN = 44;
    private static final int CLOSE = 45;
    private static final int NUMERAL = 46;
    private static final int NAME = 47;
    private static final int END = 48;
    private static final int NO_TOKEN = 49;

    // The rows of a VALLEY: hills, men, flights, calls.
    private static final int HILL_X = 0;
    private static final int HILL_Y = 1;
    private static final int FALL = 2;
    private static final int HILL_ROW = 3;
    private static final int HOME = 0;
    private static final int EAR = 1;
    private static final int COIN = 2;
    private static final int OLD = 3;
    private static final int BY = 4;
    private static final int NEEDS = 5;
    private static final int MAN_ROW = 6;
    private static final int CHANCE = 0;
    private static final int LOUD = 1;
    private static final int CALLS = 2;
    private static final int FLIGHT_ROW = 3;
    private static final int CALL_HOUR = 0;
    private static final int CALL_X = 1;
    private static final int CALL_Y = 2;
    private static final int CALL_ROW = 3;

    private final Tape tape;
    private final Valley valley;
    private final Valley spareValley;
    private final ValleyText valleyText;
    private final Days days;
    private final Days before;
    private final Days trial;
    private final History history;
    private final Camp camp;
    private final Acts acts;
    private final Sentence sentence;
    private final Sentence spareSentence;
    private final SentenceText sentenceText;
    private final Roll roll;
    private final Image[] images;
    private final int[] bestMean;
    private final int[] lastRoll;
    private boolean rollTold;
    private int lastFault;

    public CuckooShares() {
        tape = new Tape();
        valley = new Valley();
        spareValley = new Valley();
        valleyText = new ValleyText(tape, spareValley);
        days = new Days();
        before = new Days();
        trial = new Days();
        history = new History();
        camp = new Camp(valley);
        acts = new Acts(valley, camp);
        sentence = new Sentence();
        spareSentence = new Sentence();
        sentenceText = new SentenceText(tape, valley, spareSentence);
        roll = new Roll(tape, valley, acts);
        images = new Image[IMAGES];
        for (int i = 0; i < IMAGES; i++) {
            images[i] = new Image();
        }
        bestMean = new int[2];
        lastRoll = new int[4];
    }

    // ---- the tape and its texts

    public int feed(int a, int b, int c, int d, int e) {
        if (tape.size + 20 > TAPE_MOST) {
            return NONE;
        }
        tape.append(a);
        tape.append(b);
        tape.append(c);
        tape.append(d);
        tape.append(e);
        return tape.size;
    }

    public boolean end(int n) {
        if (n < 0 || n > tape.size) {
            return false;
        }
        tape.size = n;
        return true;
    }

    public int valley() {
        tape.scan(VALLEY_MOST);
        boolean good = valleyText.read();
        emptyTape();
        if (!good) {
            return -1 - tape.faultPlace;
        }
        valley.copyFrom(spareValley);
        days.begin(valley);
        sentence.clear();
        history.clear();
        return valleyText.lines;
    }

    public int fault() {
        return lastFault;
    }

    private void emptyTape() {
        tape.size = 0;
        lastFault = tape.fault;
    }

    // ---- what is told, and what is so

    public int hill(int h, int what) {
        if (!valley.hasHill(h)) {
            return NONE;
        }
        switch (what) {
            case 0:
                return valley.hill[h][HILL_X];
            case 1:
                return valley.hill[h][HILL_Y];
            case 2:
                return valley.hill[h][FALL];
            case 3:
                return valley.side(valley.hill[h][HILL_X]);
            case 4:
                return days.menOn(h, valley.men);
            default:
                return NONE;
        }
    }

    public int man(int m, int what) throws NoSuchElementException {
        if (!valley.hasMan(m)) {
            throw new NoSuchElementException("no such man");
        }
        switch (what) {
            case 0:
                return days.hill[m];
            case 1:
                return valley.man[m][EAR];
            case 2:
                return days.coins[m];
            case 3:
                return valley.man[m][OLD];
            case 4:
                return valley.man[m][BY];
            case 5:
                return days.sworn[m];
            case 6:
                return days.store[m];
            case 7:
                return valley.man[m][NEEDS];
            default:
                throw new NoSuchElementException("nothing such is told of a man");
        }
    }

    public int flight(int f, int what) {
        if (!valley.hasFlight(f) || what < 0 || what >= FLIGHT_ROW) {
            return NONE;
        }
        return valley.flight[f][what];
    }

    public int call(int f, int k, int what) {
        if (!valley.hasCall(f, k) || what < 0 || what > CALL_ROW) {
            return NONE;
        }
        int[] row = valley.callRow(f, k);
        return what == CALL_ROW ? valley.side(row[CALL_X]) : row[what];
    }

    public int now(int what) {
        switch (what) {
            case 0:
                return days.year;
            case 1:
                return days.flight;
            case 2:
                return days.hour;
            case 3:
                return acts.past(days);
            case 4:
                return days.swornMen(valley.men);
            case 5:
                return days.allCoins(valley.men);
            case 6:
                return days.allStores(valley.men);
            default:
                return NONE;
        }
    }

    public int count(int what) {
        switch (what) {
            case 0:
                return valley.hills;
            case 1:
                return valley.men;
            case 2:
                return valley.flights;
            case 3:
                return valley.chances();
            case 4:
                return valley.wheat;
            case 5:
                return tape.size;
            default:
                return NONE;
        }
    }

    // ---- acts

    public int comes(int f) {
        if (!valley.hasFlight(f)) {
            return NONE;
        }
        before.copyFrom(days);
        return keptIfDone(acts.arrive(days, f));
    }

    public int hours(int n) {
        if (n < 1 || n > HOUR_MOST) {
            return NONE;
        }
        history.push(days);
        acts.passHours(days, n);
        return days.hour;
    }

    public int move(int m, int h) {
        if (!valley.hasMan(m) || !valley.hasHill(h)) {
            return NONE;
        }
        before.copyFrom(days);
        return keptIfDone(acts.walk(days, m, h));
    }

    public int swear(int m, int k) {
        if (!valley.hasMan(m) || k < 0 || k >= CALLS_MOST) {
            return NONE;
        }
        before.copyFrom(days);
        return keptIfDone(acts.takeOath(days, m, k));
    }

    public int accuse(int m, int o) {
        if (!valley.hasMan(m) || !valley.hasMan(o) || m == o) {
            return NONE;
        }
        before.copyFrom(days);
        return keptIfDone(acts.callOath(days, m, o));
    }

    public int share() {
        before.copyFrom(days);
        return keptIfDone(acts.shareOut(days));
    }

    public int undo() {
        return history.pop(days);
    }

    private int keptIfDone(int why) {
        if (why == 0) {
            history.push(before);
        }
        return why;
    }

    // ---- who hears, who lied, what is due

    public int far(int m, int f, int k) {
        if (!valley.hasMan(m) || !valley.hasCall(f, k)) {
            return NONE;
        }
        camp.pitch(days);
        return camp.distance(m, f, k);
    }

    public int hears(int m, int f, int k) {
        if (!valley.hasMan(m) || !valley.hasCall(f, k)) {
            return NONE;
        }
        camp.pitch(days);
        return camp.hearers(f, k) >> m & 1;
    }

    public int who(int f, int k) {
        if (!valley.hasCall(f, k)) {
            return NONE;
        }
        camp.pitch(days);
        return camp.hearers(f, k);
    }

    public int first(int f, int valley) {
        if (!this.valley.hasFlight(f) || valley < 0 || valley > 1) {
            return NONE;
        }
        camp.pitch(days);
        camp.listen(f);
        return camp.firstHeard(f, valley);
    }

    public int lied() {
        return acts.liars(days);
    }

    public int nearer(int m) {
        if (!valley.hasMan(m)) {
            return NONE;
        }
        return acts.strikers(days, m);
    }

    public int due(int m) {
        if (!valley.hasMan(m) || !valley.hasFlight(days.flight)) {
            return NONE;
        }
        camp.pitch(days);
        camp.countOaths(days);
        return camp.portion(m, valley.wheat);
    }

    public int honest(int m, int f) {
        if (!valley.hasMan(m) || !valley.hasFlight(f)) {
            return NONE;
        }
        countHonest(f);
        return camp.portion(m, valley.wheat);
    }

    private void countHonest(int f) {
        camp.pitch(days);
        camp.listen(f);
        camp.countHonest(f);
    }

    // ---- means, and where to sleep

    public int mean(int m, int what) throws NoSuchElementException {
        if (!valley.hasMan(m) || valley.flights == 0 || what < 0 || what > 1) {
            throw new NoSuchElementException("no such mean");
        }
        camp.pitch(days);
        camp.listenToAll();
        int above = camp.weighedShare(m);
        int below = valley.chances();
        int common = greatestCommon(above, below);
        return (what == 0 ? above : below) / common;
    }

    public int beside(int m) {
        if (!valley.hasMan(m) || valley.flights == 0) {
            return NONE;
        }
        camp.pitch(days);
        camp.listenToAll();
        int best = NONE;
        int most = NONE;
        for (int h = 0; h < valley.hills; h++) {
            camp.putOnHill(m, h);
            int above = camp.shareHeardAnew(m);
            if (above > most) {
                most = above;
                best = h;
            }
        }
        tellBest(most);
        return best;
    }

    public int hut(int m) {
        if (!valley.hasMan(m) || valley.flights == 0) {
            return NONE;
        }
        camp.pitch(days);
        camp.listenToAll();
        int best = NONE;
        int most = NONE;
        for (int y = 0; y <= PLACE_MOST; y++) {
            for (int x = 0; x <= PLACE_MOST; x++) {
                camp.put(m, x, y, 0);
                int above = camp.shareHeardAnew(m);
                if (above > most) {
                    most = above;
                    best = 100 * y + x;
                }
            }
        }
        tellBest(most);
        return best;
    }

    public int better(int what) throws NoSuchElementException {
        // A mean has 1 below at least: 0 there says that none was told yet.
        if (bestMean[1] == 0 || what < 0 || what > 1) {
            throw new NoSuchElementException("no such mean was told");
        }
        return bestMean[what];
    }

    private void tellBest(int above) {
        int below = valley.chances();
        int common = greatestCommon(above, below);
        bestMean[0] = above / common;
        bestMean[1] = below / common;
    }

    /** 1 at least, so that it can always divide; ints need fewer than 64 steps. */
    private static int greatestCommon(int a, int b) {
        int high = a;
        int low = b;
        for (int step = 0; step < 64 && low > 0; step++) {
            int rest = high % low;
            high = low;
            low = rest;
        }
        return high > 0 ? high : 1;
    }

    public int whence() {
        int size = tape.size;
        tape.size = 0;
        if (size < 2 || size > WHENCE_MOST || size % 2 != 0) {
            return NONE;
        }
        for (int i = 0; i + 1 < size; i += 2) {
            if (!valley.hasMan(tape.byteAt(i)) || tape.byteAt(i + 1) > HOUR_MOST) {
                return NONE;
            }
        }
        camp.pitch(days);
        int flights = 0;
        for (int f = 0; f < valley.flights; f++) {
            if (isTold(f, size)) {
                flights |= 1 << f;
            }
        }
        return flights;
    }

    /** Whether the pairs of the tape's first bytes can all have been so by a FLIGHT. */
    private boolean isTold(int f, int size) {
        for (int i = 0; i + 1 < size; i += 2) {
            int k = valley.callIn(f, tape.byteAt(i + 1));
            if (k == NONE || (camp.hearers(f, k) >> tape.byteAt(i) & 1) == 0) {
                return false;
            }
        }
        return true;
    }

    // ---- what is enough

    public int enough(int f) {
        if (!valley.hasFlight(f)) {
            return NONE;
        }
        countHonest(f);
        int men = 0;
        for (int m = 0; m < valley.men; m++) {
            int needs = valley.man[m][NEEDS];
            if (needs != NONE && camp.portion(m, valley.wheat) >= needs) {
                men |= 1 << m;
            }
        }
        return men;
    }

    public int least(int f) {
        if (!valley.hasFlight(f)) {
            return NONE;
        }
        countHonest(f);
        int sharers = camp.allSharers();
        int wheat = sharers == 0 ? NONE : 0;
        for (int m = 0; m < valley.men; m++) {
            if ((sharers >> m & 1) == 1) {
                wheat = Math.max(wheat, camp.wheatFor(m, Math.max(valley.man[m][NEEDS], 0)));
            }
        }
        return wheat > WHEAT_MOST ? NONE : wheat;
    }

    public int poor() {
        camp.pitch(days);
        camp.listenToAll();
        int hearers = 0;
        for (int f = 0; f < valley.flights; f++) {
            for (int k = 0; k < valley.flight[f][CALLS]; k++) {
                hearers |= camp.heard[f * CALLS_MOST + k];
            }
        }
        return valley.allMen() & ~hearers;
    }

    public int crowded() {
        camp.pitch(days);
        int best = NONE;
        // Below any number of sharers: a FLIGHT in which nobody shares is a FLIGHT, too.
        int most = NONE;
        for (int f = 0; f < valley.flights; f++) {
            camp.listen(f);
            camp.countHonest(f);
            int sharers = Integer.bitCount(camp.allSharers());
            if (sharers > most) {
                most = sharers;
                best = f;
            }
        }
        return best;
    }

    public int swaps(int k) {
        if (valley.flights == 0 || k < NONE) {
            return NONE;
        }
        camp.pitch(days);
        camp.listenToAll();
        camp.noteShares();
        int pairs = 0;
        for (int a = 0; a < valley.men; a++) {
            for (int b = a + 1; b < valley.men; b++) {
                if (camp.bothGain(a, b, days)) {
                    if (pairs == k) {
                        return 10 * a + b;
                    }
                    pairs++;
                }
            }
        }
        return k == NONE ? pairs : NONE;
    }

    // ---- years by draws

    public int drawn(int n, int seed) {
        if (n < 1 || n > YEARS_MOST || valley.hills == 0 || valley.flights == 0) {
            return NONE;
        }
        before.copyFrom(days);
        int years = acts.drawYears(days, n, seed);
        if (years > 0) {
            history.push(before);
        }
        return years;
    }

    public int odds(int m, int w, int n, int seed) {
        if (!valley.hasMan(m) || w < 0 || w > WHEAT_MOST || n < 1 || n > SEEDS_MOST || valley.flights == 0) {
            return NONE;
        }
        int times = 0;
        for (int i = 0; i < n; i++) {
            trial.copyFrom(days);
            acts.drawYears(trial, ODDS_YEARS, seed + i);
            if (trial.store[m] - days.store[m] > w) {
                times++;
            }
        }
        return times;
    }

    // ---- rolls and sentences

    public int roll(int lives) {
        if (lives != 0 && lives != 1) {
            return ANOTHER_LIVES;
        }
        tape.scan(ROLL_MOST);
        boolean good = roll.read();
        emptyTape();
        if (!good) {
            return -2 - tape.faultPlace;
        }
        trial.copyFrom(days);
        int wrong = roll.live(trial);
        lastRoll[0] = roll.why;
        lastRoll[1] = wrong == NONE ? roll.lines : wrong;
        lastRoll[2] = trial.year;
        lastRoll[3] = trial.allStores(valley.men) - days.allStores(valley.men);
        rollTold = true;
        if (lives == 1) {
            history.push(days);
            days.copyFrom(trial);
        }
        return wrong;
    }

    public int rolled(int what) {
        if (!rollTold || what < 0 || what >= lastRoll.length) {
            return NONE;
        }
        return lastRoll[what];
    }

    public int sentence() {
        tape.scan(SENTENCE_MOST);
        boolean good = sentenceText.read();
        emptyTape();
        if (!good) {
            return -1 - tape.faultPlace;
        }
        sentence.copyFrom(spareSentence);
        return sentence.ones;
    }

    public int said(int k) {
        if (!sentence.told || k < NONE) {
            return NONE;
        }
        int men = sentence.menOfWhom(valley, days, acts);
        if (k == NONE) {
            return Integer.bitCount(men);
        }
        int ahead = 0;
        for (int m = 0; m < valley.men; m++) {
            if ((men >> m & 1) == 1) {
                if (ahead == k) {
                    return m;
                }
                ahead++;
            }
        }
        return NONE;
    }

    // ---- images

    public boolean image(int k) {
        if (k < 0 || k >= IMAGES) {
            return false;
        }
        images[k].keep(valley, days, sentence);
        return true;
    }

    public boolean restore(int k) {
        if (k < 0 || k >= IMAGES || !images[k].kept) {
            return false;
        }
        images[k].giveBack(valley, days, sentence);
        history.clear();
        return true;
    }

    /** The bytes that were fed, and the TOKENS of the text that they are. */
    private static final class Tape {
        private final byte[] bytes = new byte[TAPE_MOST];
        private final int[] tokens = new int[TAPE_MOST + 1];
        private final int[] places = new int[TAPE_MOST + 1];
        private final int[] numbers = new int[TAPE_MOST + 1];
        private final long[] names = new long[TAPE_MOST + 1];
        private int size;
        private int tokensRead;
        private int tokensTaken;
        private int place;
        private int token;
        private int number;
        private long name;
        private int value;
        private int fault;
        private int faultPlace;

        void append(int word) {
            for (int shift = 24; shift >= 0; shift -= 8) {
                if (size < TAPE_MOST) {
                    bytes[size] = (byte) (word >> shift);
                    size++;
                }
            }
        }

        int byteAt(int i) {
            return i >= 0 && i < TAPE_MOST ? bytes[i] & 255 : 0;
        }

        /** Reads all TOKENS of a text that may have so many bytes, and comes to the first one. */
        void scan(int most) {
            fault = 0;
            faultPlace = 0;
            tokensRead = 0;
            int at = 0;
            for (int step = 0; step < TAPE_MOST && at < size && at < most; step++) {
                int sign = byteAt(at);
                if (isInRun(sign)) {
                    at = scanRun(at);
                } else {
                    if (!isBlank(sign)) {
                        note(signToken(sign), at, 0, 0);
                    }
                    at++;
                }
            }
            // A text that is too long has no end that may come: its FAULT lies at the limit.
            note(size > most ? NO_TOKEN : END, Math.min(size, most), 0, 0);
            tokensTaken = 0;
            next();
        }

        /** Where the WORD or NUMBER ends that begins here. */
        private int scanRun(int from) {
            int letters = 0;
            int digits = 0;
            int numberHere = 0;
            long nameHere = 0;
            int at = from;
            while (at < size && isInRun(byteAt(at))) {
                int sign = byteAt(at);
                if (isDigit(sign)) {
                    digits++;
                    numberHere = numberHere * 10 + sign - '0';
                } else {
                    letters++;
                    nameHere = nameHere * 27 + sign - 'a' + 1;
                }
                at++;
            }
            int kind = NO_TOKEN;
            if (letters == 0 && digits <= 3) {
                kind = NUMERAL;
            } else if (digits == 0 && letters <= WORD_MOST) {
                kind = wordToken(from, at);
            }
            note(kind, from, numberHere, nameHere);
            return at;
        }

        private void note(int kind, int at, int numberHere, long nameHere) {
            if (tokensRead < tokens.length) {
                tokens[tokensRead] = kind;
                places[tokensRead] = at;
                numbers[tokensRead] = numberHere;
                names[tokensRead] = nameHere;
                tokensRead++;
            }
        }

        /** Comes to the next TOKEN; behind the last one nothing comes. */
        void next() {
            if (tokensTaken < tokensRead && tokensTaken < tokens.length) {
                token = tokens[tokensTaken];
                place = places[tokensTaken];
                number = numbers[tokensTaken];
                name = names[tokensTaken];
                tokensTaken++;
            }
        }

        private int wordToken(int from, int to) {
            int word = wordIn(VALLEY_WORDS, from, to);
            if (word != NONE) {
                return word;
            }
            word = wordIn(ROLL_WORDS, from, to);
            if (word != NONE) {
                return ROLL_WORDS_FROM + word;
            }
            word = wordIn(SENTENCE_WORDS, from, to);
            return word == NONE ? NAME : SENTENCE_WORDS_FROM + word;
        }

        private int wordIn(String row, int from, int to) {
            for (int w = 0; (w + 1) * WORD_MOST <= row.length(); w++) {
                if (isWord(row, w, from, to)) {
                    return w;
                }
            }
            return NONE;
        }

        private boolean isWord(String row, int w, int from, int to) {
            for (int i = 0; i < WORD_MOST; i++) {
                int sign = from + i < to ? byteAt(from + i) : ' ';
                if (row.charAt(w * WORD_MOST + i) != sign) {
                    return false;
                }
            }
            return true;
        }

        /** Tells a FAULT at the TOKEN of now; always false, so that a reader can answer by it. */
        boolean blame(int kind) {
            fault = kind;
            faultPlace = place;
            return false;
        }

        boolean take(int wanted) {
            if (token != wanted) {
                return blame(FAULT_TOKEN);
            }
            next();
            return true;
        }

        /** The number is kept as the value, for the next TOKEN may be a NUMBER too. */
        boolean takeNumber(int low, int high) {
            if (token != NUMERAL) {
                return blame(FAULT_TOKEN);
            }
            if (number < low || number > high) {
                return blame(FAULT_NUMBER);
            }
            value = number;
            next();
            return true;
        }

        /** The HILL named here, whose NAME is not taken yet; NONE, with its FAULT told. */
        int hillHere(Valley valley) {
            return toldHere(valley.numberOf(name, valley.hillName, valley.hills));
        }

        /** The MAN named here, as hillHere. */
        int manHere(Valley valley) {
            return toldHere(valley.numberOf(name, valley.manName, valley.men));
        }

        private int toldHere(int told) {
            if (token != NAME) {
                blame(FAULT_TOKEN);
                return NONE;
            }
            if (told == NONE) {
                blame(FAULT_NAME);
            }
            return told;
        }

        private static boolean isBlank(int sign) {
            return sign == 32 || sign == 10;
        }

        private static boolean isInRun(int sign) {
            return sign >= 'a' && sign <= 'z' || isDigit(sign);
        }

        private static boolean isDigit(int sign) {
            return sign >= '0' && sign <= '9';
        }

        private static int signToken(int sign) {
            switch (sign) {
                case ';':
                    return SEMICOLON;
                case '<':
                    return LESS;
                case '=':
                    return EQUAL;
                case '>':
                    return MORE;
                case '(':
                    return OPEN;
                case ')':
                    return CLOSE;
                default:
                    return NO_TOKEN;
            }
        }
    }

    /** What a VALLEY's text tells: all that no act changes, and what a new one begins with. */
    private static final class Valley {
        private int ridge;
        private int wheat;
        private int windWay;
        private int windForce;
        private int hills;
        private int men;
        private int flights;
        private final long[] hillName = new long[HILLS_MOST];
        private final long[] manName = new long[MEN_MOST];
        private final int[][] hill = new int[HILLS_MOST][HILL_ROW];
        private final int[][] man = new int[MEN_MOST][MAN_ROW];
        private final int[][] flight = new int[FLIGHTS_MOST][FLIGHT_ROW];
        private final int[][] call = new int[FLIGHTS_MOST * CALLS_MOST][CALL_ROW];
        private final int[] echo = new int[MEN_MOST];

        Valley() {
            ridge = PLACE_MOST;
            wheat = WHEAT_UNTOLD;
            windWay = NONE;
        }

        void clear() {
            ridge = PLACE_MOST;
            wheat = WHEAT_UNTOLD;
            windWay = NONE;
            windForce = 0;
            hills = 0;
            men = 0;
            flights = 0;
        }

        void copyFrom(Valley other) {
            ridge = other.ridge;
            wheat = other.wheat;
            windWay = other.windWay;
            windForce = other.windForce;
            hills = other.hills;
            men = other.men;
            flights = other.flights;
            System.arraycopy(other.hillName, 0, hillName, 0, HILLS_MOST);
            System.arraycopy(other.manName, 0, manName, 0, MEN_MOST);
            System.arraycopy(other.echo, 0, echo, 0, MEN_MOST);
            copyRows(other.hill, hill, hills);
            copyRows(other.man, man, men);
            copyRows(other.flight, flight, flights);
            copyRows(other.call, call, flights * CALLS_MOST);
        }

        private static void copyRows(int[][] from, int[][] to, int rows) {
            for (int i = 0; i < rows && i < from.length && i < to.length; i++) {
                System.arraycopy(from[i], 0, to[i], 0, Math.min(from[i].length, to[i].length));
            }
        }

        boolean hasHill(int h) {
            return h >= 0 && h < hills;
        }

        boolean hasMan(int m) {
            return m >= 0 && m < men;
        }

        boolean hasFlight(int f) {
            return f >= 0 && f < flights;
        }

        boolean hasCall(int f, int k) {
            return hasFlight(f) && k >= 0 && k < flight[f][CALLS];
        }

        int[] callRow(int f, int k) {
            return call[f * CALLS_MOST + k];
        }

        /** The CALL of a FLIGHT in an HOUR: hours of calls are unlike, so there is one at most. */
        int callIn(int f, int hour) {
            for (int k = 0; k < flight[f][CALLS]; k++) {
                if (callRow(f, k)[CALL_HOUR] == hour) {
                    return k;
                }
            }
            return NONE;
        }

        int side(int x) {
            return x > ridge ? 1 : 0;
        }

        int allMen() {
            return (1 << men) - 1;
        }

        int chances() {
            int all = 0;
            for (int f = 0; f < flights; f++) {
                all += flight[f][CHANCE];
            }
            return all;
        }

        /** The FLIGHT of a draw of all CHANCES. */
        int flightDrawn(int draw) {
            int rest = draw;
            for (int f = 0; f < flights; f++) {
                rest -= flight[f][CHANCE];
                if (rest < 0) {
                    return f;
                }
            }
            return NONE;
        }

        /** How much farther a call is heard at a place, by the wind. */
        int windAt(int x, int y, int[] bird) {
            boolean withIt;
            switch (windWay) {
                case W_NORTH:
                    withIt = y < bird[CALL_Y];
                    break;
                case W_EAST:
                    withIt = x > bird[CALL_X];
                    break;
                case W_SOUTH:
                    withIt = y > bird[CALL_Y];
                    break;
                case W_WEST:
                    withIt = x < bird[CALL_X];
                    break;
                default:
                    withIt = false;
                    break;
            }
            return withIt ? windForce : 0;
        }

        int weight(int m) {
            return man[m][OLD] == 1 ? WEIGHT_OLD : WEIGHT;
        }

        int numberOf(long name, long[] names, int told) {
            for (int i = 0; i < told && i < names.length; i++) {
                if (names[i] == name) {
                    return i;
                }
            }
            return NONE;
        }

        boolean isTold(long name) {
            return numberOf(name, hillName, hills) != NONE || numberOf(name, manName, men) != NONE;
        }

        /** Of each MAN, who hears a CALL that reaches his ears: nobody by a deaf one. */
        void noteEchoes() {
            for (int m = 0; m < men; m++) {
                echo[m] = man[m][BY] == NONE ? 1 << m : 0;
            }
            for (int m = 0; m < men; m++) {
                int by = man[m][BY];
                if (hasMan(by) && man[by][BY] == NONE) {
                    echo[by] |= 1 << m;
                }
            }
        }
    }

    /** Reads the tape as a VALLEY. */
    private static final class ValleyText {
        private final Tape tape;
        private final Valley into;
        private int lines;
        private int wordsTold;
        private int fallsTold;

        ValleyText(Tape tape, Valley into) {
            this.tape = tape;
            this.into = into;
        }

        boolean read() {
            into.clear();
            lines = 0;
            wordsTold = 0;
            fallsTold = 0;
            while (tape.token != END && lines < TAPE_MOST) {
                if (!readLine() || !tape.take(SEMICOLON)) {
                    return false;
                }
                lines++;
            }
            into.noteEchoes();
            return true;
        }

        private boolean readLine() {
            switch (tape.token) {
                case W_RIDGE:
                    return readRidge();
                case W_WHEAT:
                    return readWheat();
                case W_WIND:
                    return readWind();
                case W_HILL:
                    return readHill();
                case W_FALL:
                    return readFall();
                case W_MAN:
                    return readMan();
                case W_OLD:
                    return readOld();
                case W_DEAF:
                    return readDeaf();
                case W_NEEDS:
                    return readNeeds();
                case W_FLIGHT:
                    return readFlight();
                default:
                    return tape.blame(FAULT_TOKEN);
            }
        }

        private boolean takeOnce() {
            int bit = 1 << tape.token;
            if ((wordsTold & bit) != 0) {
                return tape.blame(FAULT_NAME);
            }
            wordsTold |= bit;
            tape.next();
            return true;
        }

        private boolean readRidge() {
            if (!takeOnce() || !tape.takeNumber(0, PLACE_MOST)) {
                return false;
            }
            into.ridge = tape.value;
            return true;
        }

        private boolean readWheat() {
            if (!takeOnce() || !tape.takeNumber(0, WHEAT_MOST)) {
                return false;
            }
            into.wheat = tape.value;
            return true;
        }

        private boolean readWind() {
            if (!takeOnce()) {
                return false;
            }
            if (tape.token < W_NORTH || tape.token > W_WEST) {
                return tape.blame(FAULT_TOKEN);
            }
            into.windWay = tape.token;
            tape.next();
            if (!tape.takeNumber(0, 9)) {
                return false;
            }
            into.windForce = tape.value;
            return true;
        }

        /** Whether a NAME that is not told yet stands here; it is not taken. */
        private boolean isNewName() {
            if (tape.token != NAME) {
                return tape.blame(FAULT_TOKEN);
            }
            return !into.isTold(tape.name) || tape.blame(FAULT_NAME);
        }

        private boolean readHill() {
            int h = into.hills;
            if (h >= HILLS_MOST) {
                return tape.blame(FAULT_MANY);
            }
            tape.next();
            if (!isNewName()) {
                return false;
            }
            into.hillName[h] = tape.name;
            into.hills++;
            tape.next();
            into.hill[h][FALL] = 0;
            return readInto(into.hill[h], HILL_X, 0, PLACE_MOST) && readInto(into.hill[h], HILL_Y, 0, PLACE_MOST);
        }

        private boolean readFall() {
            tape.next();
            int h = tape.hillHere(into);
            if (h == NONE) {
                return false;
            }
            if ((fallsTold >> h & 1) == 1) {
                return tape.blame(FAULT_NAME);
            }
            fallsTold |= 1 << h;
            tape.next();
            return readInto(into.hill[h], FALL, 0, 9);
        }

        private boolean readMan() {
            int m = into.men;
            if (m >= MEN_MOST) {
                return tape.blame(FAULT_MANY);
            }
            tape.next();
            if (!isNewName()) {
                return false;
            }
            into.manName[m] = tape.name;
            into.men++;
            tape.next();
            int[] row = into.man[m];
            row[OLD] = 0;
            row[BY] = NONE;
            row[NEEDS] = NONE;
            row[HOME] = tape.hillHere(into);
            if (row[HOME] == NONE) {
                return false;
            }
            tape.next();
            return readInto(row, EAR, 0, 9) && readInto(row, COIN, 0, 9);
        }

        /** Takes the NAME of a MAN of whom something is told that may be told once; NONE, with its FAULT told. */
        private int takeManOnce(int what, int untold) {
            tape.next();
            int m = tape.manHere(into);
            if (m == NONE) {
                return NONE;
            }
            if (into.man[m][what] != untold) {
                tape.blame(FAULT_NAME);
                return NONE;
            }
            tape.next();
            return m;
        }

        private boolean readOld() {
            int m = takeManOnce(OLD, 0);
            if (m == NONE) {
                return false;
            }
            into.man[m][OLD] = 1;
            return true;
        }

        private boolean readDeaf() {
            int m = takeManOnce(BY, NONE);
            if (m == NONE) {
                return false;
            }
            int by = tape.manHere(into);
            if (by == NONE) {
                return false;
            }
            if (by == m) {
                return tape.blame(FAULT_NAME);
            }
            into.man[m][BY] = by;
            tape.next();
            return true;
        }

        private boolean readNeeds() {
            int m = takeManOnce(NEEDS, NONE);
            return m != NONE && readInto(into.man[m], NEEDS, 0, NEEDS_MOST);
        }

        private boolean readFlight() {
            int f = into.flights;
            if (f >= FLIGHTS_MOST) {
                return tape.blame(FAULT_MANY);
            }
            into.flights++;
            tape.next();
            int[] row = into.flight[f];
            row[CALLS] = 0;
            if (!readInto(row, CHANCE, 1, 9) || !readInto(row, LOUD, 0, 20)) {
                return false;
            }
            int from = 0;
            for (int k = 0; k <= CALLS_MOST && tape.token == NUMERAL; k++) {
                if (k == CALLS_MOST) {
                    return tape.blame(FAULT_MANY);
                }
                int[] call = into.callRow(f, k);
                if (!readInto(call, CALL_HOUR, from, HOUR_MOST) || !readInto(call, CALL_X, 0, PLACE_MOST)
                    || !readInto(call, CALL_Y, 0, PLACE_MOST)) {
                    return false;
                }
                from = call[CALL_HOUR] + 1;
                row[CALLS]++;
            }
            return true;
        }

        private boolean readInto(int[] row, int what, int low, int high) {
            if (what < 0 || what >= row.length || !tape.takeNumber(low, high)) {
                return false;
            }
            row[what] = tape.value;
            return true;
        }
    }

    /** All that acts change. */
    private static final class Days {
        private int year;
        private int flight;
        private int hour;
        private final int[] hill = new int[MEN_MOST];
        private final int[] coins = new int[MEN_MOST];
        private final int[] sworn = new int[MEN_MOST];
        private final int[] store = new int[MEN_MOST];

        Days() {
            flight = NONE;
        }

        void begin(Valley valley) {
            year = 0;
            flight = NONE;
            hour = 0;
            for (int m = 0; m < valley.men; m++) {
                hill[m] = valley.man[m][HOME];
                coins[m] = valley.man[m][COIN];
                sworn[m] = NONE;
                store[m] = 0;
            }
        }

        void copyFrom(Days other) {
            year = other.year;
            flight = other.flight;
            hour = other.hour;
            System.arraycopy(other.hill, 0, hill, 0, MEN_MOST);
            System.arraycopy(other.coins, 0, coins, 0, MEN_MOST);
            System.arraycopy(other.sworn, 0, sworn, 0, MEN_MOST);
            System.arraycopy(other.store, 0, store, 0, MEN_MOST);
        }

        void endYear(int men) {
            year++;
            flight = NONE;
            hour = 0;
            for (int m = 0; m < men; m++) {
                sworn[m] = NONE;
            }
        }

        int menOn(int h, int men) {
            int there = 0;
            for (int m = 0; m < men; m++) {
                if (hill[m] == h) {
                    there |= 1 << m;
                }
            }
            return there;
        }

        int swornMen(int men) {
            int all = 0;
            for (int m = 0; m < men; m++) {
                if (sworn[m] != NONE) {
                    all |= 1 << m;
                }
            }
            return all;
        }

        int allCoins(int men) {
            int all = 0;
            for (int m = 0; m < men; m++) {
                all += coins[m];
            }
            return all;
        }

        int allStores(int men) {
            int all = 0;
            for (int m = 0; m < men; m++) {
                all += store[m];
            }
            return all;
        }
    }

    /** The latest acts' days ahead of them, the oldest given up for a ninth. */
    private static final class History {
        private final Days[] kept = new Days[UNDO_MOST];
        private int oldest;
        private int size;

        History() {
            for (int i = 0; i < UNDO_MOST; i++) {
                kept[i] = new Days();
            }
        }

        void clear() {
            size = 0;
        }

        void push(Days days) {
            kept[(oldest + size) % UNDO_MOST].copyFrom(days);
            if (size < UNDO_MOST) {
                size++;
            } else {
                oldest = (oldest + 1) % UNDO_MOST;
            }
        }

        int pop(Days into) {
            if (size == 0) {
                return NONE;
            }
            size--;
            into.copyFrom(kept[(oldest + size) % UNDO_MOST]);
            return size;
        }
    }

    /** Where each MAN sleeps, by hills or by a trial; who hears what from there, and who shares by it. */
    private static final class Camp {
        private final Valley valley;
        private final int[] x = new int[MEN_MOST];
        private final int[] y = new int[MEN_MOST];
        private final int[] fall = new int[MEN_MOST];
        private final int[] heard = new int[FLIGHTS_MOST * CALLS_MOST];
        private final int[] noted = new int[MEN_MOST];
        private final int[] shareCall = new int[2];
        private final int[] sharers = new int[2];
        private final int[] weights = new int[2];

        Camp(Valley valley) {
            this.valley = valley;
        }

        void pitch(Days days) {
            for (int m = 0; m < valley.men; m++) {
                putOnHill(m, days.hill[m]);
            }
        }

        void putOnHill(int m, int h) {
            if (valley.hasHill(h)) {
                put(m, valley.hill[h][HILL_X], valley.hill[h][HILL_Y], valley.hill[h][FALL]);
            }
        }

        void put(int m, int placeX, int placeY, int placeFall) {
            x[m] = placeX;
            y[m] = placeY;
            fall[m] = placeFall;
        }

        int distance(int m, int f, int k) {
            int[] bird = valley.callRow(f, k);
            return Math.abs(x[m] - bird[CALL_X]) + Math.abs(y[m] - bird[CALL_Y]);
        }

        private boolean reaches(int m, int f, int k) {
            int[] bird = valley.callRow(f, k);
            int range = valley.man[m][EAR] + valley.flight[f][LOUD] - fall[m] + valley.windAt(x[m], y[m], bird);
            if (valley.side(x[m]) != valley.side(bird[CALL_X])) {
                range -= RIDGE_LESS;
            }
            return distance(m, f, k) <= range;
        }

        int hearers(int f, int k) {
            int men = 0;
            for (int m = 0; m < valley.men; m++) {
                if (valley.echo[m] != 0 && reaches(m, f, k)) {
                    men |= valley.echo[m];
                }
            }
            return men;
        }

        void listen(int f) {
            for (int k = 0; k < valley.flight[f][CALLS]; k++) {
                heard[f * CALLS_MOST + k] = hearers(f, k);
            }
        }

        void listenToAll() {
            for (int f = 0; f < valley.flights; f++) {
                listen(f);
            }
        }

        /** Behind a put() of one MAN: the ears of all others are where they were. */
        private void listenAgain(int m) {
            int echo = valley.echo[m];
            if (echo == 0) {
                return;
            }
            for (int f = 0; f < valley.flights; f++) {
                for (int k = 0; k < valley.flight[f][CALLS]; k++) {
                    int others = heard[f * CALLS_MOST + k] & ~echo;
                    heard[f * CALLS_MOST + k] = reaches(m, f, k) ? others | echo : others;
                }
            }
        }

        private int menInValley(int side) {
            int men = 0;
            for (int m = 0; m < valley.men; m++) {
                if (valley.side(x[m]) == side) {
                    men |= 1 << m;
                }
            }
            return men;
        }

        int firstHeard(int f, int side) {
            int there = menInValley(side);
            for (int k = 0; k < valley.flight[f][CALLS]; k++) {
                if ((heard[f * CALLS_MOST + k] & there) != 0) {
                    return k;
                }
            }
            return NONE;
        }

        void countHonest(int f) {
            for (int side = 0; side < 2; side++) {
                int k = firstHeard(f, side);
                int men = k == NONE ? 0 : heard[f * CALLS_MOST + k] & menInValley(side);
                noteSharers(side, k, men);
            }
        }

        void countOaths(Days days) {
            for (int side = 0; side < 2; side++) {
                int there = menInValley(side);
                int k = NONE;
                int men = 0;
                for (int m = 0; m < valley.men; m++) {
                    int sworn = days.sworn[m];
                    if (sworn == NONE || (there >> m & 1) == 0) {
                        continue;
                    }
                    if (k == NONE || sworn < k) {
                        k = sworn;
                        men = 0;
                    }
                    if (sworn == k) {
                        men |= 1 << m;
                    }
                }
                noteSharers(side, k, men);
            }
        }

        private void noteSharers(int side, int k, int men) {
            shareCall[side] = k;
            sharers[side] = men;
            weights[side] = 0;
            for (int m = 0; m < valley.men; m++) {
                if ((men >> m & 1) == 1) {
                    weights[side] += valley.weight(m);
                }
            }
        }

        int allSharers() {
            return sharers[0] | sharers[1];
        }

        /** The valley in which a MAN has some weight; NONE. */
        private int sideOfShare(int m) {
            if ((sharers[0] >> m & 1) == 1) {
                return 0;
            }
            return (sharers[1] >> m & 1) == 1 ? 1 : NONE;
        }

        int portion(int m, int wheat) {
            int side = sideOfShare(m);
            if (side == NONE || weights[side] == 0) {
                return 0;
            }
            int there = shareCall[side] == HALF_CALL ? wheat / 2 : wheat;
            return there * valley.weight(m) / weights[side];
        }

        /** The least wheat by which a sharer's portion is what he needs. */
        int wheatFor(int m, int needs) {
            int side = sideOfShare(m);
            if (side == NONE) {
                return 0;
            }
            int weight = valley.weight(m);
            int wheat = (needs * weights[side] + weight - 1) / weight;
            return shareCall[side] == HALF_CALL ? 2 * wheat : wheat;
        }

        /** What a MAN has by all FLIGHTS, each times its CHANCE: his MEAN, all CHANCES being below it. */
        int weighedShare(int m) {
            int sum = 0;
            for (int f = 0; f < valley.flights; f++) {
                countHonest(f);
                sum += valley.flight[f][CHANCE] * portion(m, valley.wheat);
            }
            return sum;
        }

        int shareHeardAnew(int m) {
            listenAgain(m);
            return weighedShare(m);
        }

        void noteShares() {
            for (int m = 0; m < valley.men; m++) {
                noted[m] = weighedShare(m);
            }
        }

        /** Whether both have more than noted on one another's HILLS; all stands as it stood then. */
        boolean bothGain(int a, int b, Days days) {
            if (days.hill[a] == days.hill[b]) {
                return false;
            }
            putBoth(a, days.hill[b], b, days.hill[a]);
            boolean gain = weighedShare(a) > noted[a] && weighedShare(b) > noted[b];
            putBoth(a, days.hill[a], b, days.hill[b]);
            return gain;
        }

        private void putBoth(int a, int hillOfA, int b, int hillOfB) {
            putOnHill(a, hillOfA);
            putOnHill(b, hillOfB);
            listenAgain(a);
            listenAgain(b);
        }
    }

    /** What may be done in given days, and is done then: 0, or why not. */
    private static final class Acts {
        private final Valley valley;
        private final Camp camp;
        private int seed;

        Acts(Valley valley, Camp camp) {
            this.valley = valley;
            this.camp = camp;
        }

        int past(Days days) {
            int f = days.flight;
            if (!valley.hasFlight(f)) {
                return 0;
            }
            int calls = 0;
            while (calls < valley.flight[f][CALLS] && valley.callRow(f, calls)[CALL_HOUR] <= days.hour) {
                calls++;
            }
            return calls;
        }

        int arrive(Days days, int f) {
            if (days.flight != NONE) {
                return 1;
            }
            days.flight = f;
            return 0;
        }

        void passHours(Days days, int n) {
            days.hour = Math.min(days.hour + n, HOUR_MOST);
        }

        int walk(Days days, int m, int h) {
            if (days.hill[m] == h) {
                return 1;
            }
            if (past(days) > 0) {
                return 2;
            }
            days.hill[m] = h;
            return 0;
        }

        int takeOath(Days days, int m, int k) {
            if (days.sworn[m] != NONE) {
                return 1;
            }
            if (k >= past(days)) {
                return 2;
            }
            if (days.coins[m] == 0) {
                return 3;
            }
            days.sworn[m] = k;
            days.coins[m]--;
            return 0;
        }

        private int whyNotCalled(Days days, int m, int o) {
            int k = days.sworn[o];
            if (!valley.hasCall(days.flight, k)) {
                return 1;
            }
            camp.pitch(days);
            if (camp.distance(m, days.flight, k) >= camp.distance(o, days.flight, k)) {
                return 2;
            }
            if (days.sworn[m] == k) {
                return 3;
            }
            return days.coins[m] == 0 ? 4 : 0;
        }

        int callOath(Days days, int m, int o) {
            int why = whyNotCalled(days, m, o);
            if (why != 0) {
                return why;
            }
            // The camp stands as whyNotCalled() pitched it.
            if ((camp.hearers(days.flight, days.sworn[o]) >> o & 1) == 1) {
                days.coins[m]--;
            } else {
                days.sworn[o] = NONE;
            }
            return 0;
        }

        int liars(Days days) {
            camp.pitch(days);
            int men = 0;
            for (int m = 0; m < valley.men; m++) {
                int k = days.sworn[m];
                if (valley.hasCall(days.flight, k) && (camp.hearers(days.flight, k) >> m & 1) == 0) {
                    men |= 1 << m;
                }
            }
            return men;
        }

        /** Who could call the oath of a MAN so that it is struck. */
        int strikers(Days days, int o) {
            int men = 0;
            if ((liars(days) >> o & 1) == 1) {
                for (int m = 0; m < valley.men; m++) {
                    if (m != o && whyNotCalled(days, m, o) == 0) {
                        men |= 1 << m;
                    }
                }
            }
            return men;
        }

        int hearersSoFar(Days days) {
            camp.pitch(days);
            int calls = past(days);
            int men = 0;
            for (int k = 0; k < calls; k++) {
                men |= camp.hearers(days.flight, k);
            }
            return men;
        }

        int shareOut(Days days) {
            if (days.flight == NONE) {
                return 1;
            }
            if (days.year >= YEAR_MOST) {
                return 2;
            }
            camp.pitch(days);
            camp.countOaths(days);
            storeAndEnd(days);
            return 0;
        }

        private void storeAndEnd(Days days) {
            for (int m = 0; m < valley.men; m++) {
                days.store[m] += camp.portion(m, valley.wheat);
            }
            days.endYear(valley.men);
        }

        private int draw(int n) {
            seed = seed * 1103515245 + 12345;
            return n > 0 ? (seed >>> 8) % n : 0;
        }

        /** How many of n years go by. */
        int drawYears(Days days, int n, int firstSeed) {
            seed = firstSeed;
            int years = 0;
            while (years < n && days.year < YEAR_MOST) {
                drawYear(days);
                years++;
            }
            return years;
        }

        private void drawYear(Days days) {
            for (int m = 0; m < valley.men; m++) {
                if (draw(4) == 0) {
                    walk(days, m, draw(valley.hills));
                }
            }
            int f = valley.flightDrawn(draw(valley.chances()));
            if (!valley.hasFlight(f)) {
                return;
            }
            camp.pitch(days);
            camp.listen(f);
            camp.countHonest(f);
            storeAndEnd(days);
        }
    }

    /** A ROLL: its LINES as the tape told them, and how far they can be lived. */
    private static final class Roll {
        private final Tape tape;
        private final Valley valley;
        private final Acts acts;
        private final int[] act = new int[LINES_MOST];
        private final int[] who = new int[LINES_MOST];
        private final int[] object = new int[LINES_MOST];
        private int lines;
        private int why;

        Roll(Tape tape, Valley valley, Acts acts) {
            this.tape = tape;
            this.valley = valley;
            this.acts = acts;
        }

        boolean read() {
            lines = 0;
            while (tape.token != END && lines <= LINES_MOST) {
                if (!readLine() || !tape.take(SEMICOLON)) {
                    return false;
                }
                lines++;
            }
            return true;
        }

        private boolean readLine() {
            int word = tape.token;
            boolean ofNobody = word == W_COMES || word == W_HOUR || word == W_SHARES;
            int m = ofNobody ? NONE : tape.manHere(valley);
            if (!ofNobody && m == NONE) {
                return false;
            }
            if (lines >= LINES_MOST) {
                return tape.blame(FAULT_MANY);
            }
            tape.next();
            if (!ofNobody) {
                return readActOf(m);
            }
            if (word == W_SHARES) {
                return note(word, NONE, NONE);
            }
            boolean good = word == W_COMES ? tape.takeNumber(0, FLIGHTS_MOST - 1) : tape.takeNumber(1, HOUR_MOST);
            return good && note(word, NONE, tape.value);
        }

        private boolean readActOf(int m) {
            int word = tape.token;
            if (word != W_MOVES && word != W_SWEARS && word != W_CALLS) {
                return tape.blame(FAULT_TOKEN);
            }
            tape.next();
            if (word == W_SWEARS) {
                return tape.takeNumber(0, CALLS_MOST - 1) && note(word, m, tape.value);
            }
            int other = word == W_MOVES ? tape.hillHere(valley) : tape.manHere(valley);
            if (other == NONE) {
                return false;
            }
            tape.next();
            return note(word, m, other);
        }

        private boolean note(int word, int m, int other) {
            if (lines < 0 || lines >= LINES_MOST) {
                return false;
            }
            act[lines] = word;
            who[lines] = m;
            object[lines] = other;
            return true;
        }

        /** The LINE that is WRONG in these days, all ahead of it being lived; NONE. */
        int live(Days days) {
            why = 0;
            for (int i = 0; i < lines && i < LINES_MOST; i++) {
                why = whyWrong(days, act[i], who[i], object[i]);
                if (why != 0) {
                    return i;
                }
            }
            return NONE;
        }

        private int whyWrong(Days days, int word, int m, int other) {
            switch (word) {
                case W_COMES:
                    return valley.hasFlight(other) ? acts.arrive(days, other) : WRONG_FLIGHT;
                case W_HOUR:
                    acts.passHours(days, other);
                    return 0;
                case W_MOVES:
                    return above(WRONG_MOVE, acts.walk(days, m, other));
                case W_SWEARS:
                    return above(WRONG_OATH, acts.takeOath(days, m, other));
                case W_CALLS:
                    return m == other ? WRONG_ALIKE : above(WRONG_CALL, acts.callOath(days, m, other));
                default:
                    return above(WRONG_SHARE, acts.shareOut(days));
            }
        }

        private static int above(int tens, int reason) {
            return reason == 0 ? 0 : tens + reason;
        }
    }

    /** A SENTENCE: steps on a stack of sets of MEN, each set as bits. */
    private static final class Sentence {
        private boolean told;
        private int ones;
        private int steps;
        private final int[] word = new int[CODE_MOST];
        private final int[] sign = new int[CODE_MOST];
        private final int[] value = new int[CODE_MOST];
        private final int[] stack = new int[CODE_MOST];

        void clear() {
            told = false;
            ones = 0;
            steps = 0;
        }

        void copyFrom(Sentence other) {
            told = other.told;
            ones = other.ones;
            steps = other.steps;
            System.arraycopy(other.word, 0, word, 0, CODE_MOST);
            System.arraycopy(other.sign, 0, sign, 0, CODE_MOST);
            System.arraycopy(other.value, 0, value, 0, CODE_MOST);
        }

        /** Brackets leave no step: 20 ONES and what joins them are always fewer than there is room for. */
        boolean add(int stepWord, int stepSign, int stepValue) {
            if (steps >= CODE_MOST) {
                return false;
            }
            word[steps] = stepWord;
            sign[steps] = stepSign;
            value[steps] = stepValue;
            steps++;
            return true;
        }

        int menOfWhom(Valley valley, Days days, Acts acts) {
            int top = 0;
            for (int i = 0; i < steps && i < CODE_MOST; i++) {
                int step = word[i];
                if (step == W_NOT && top >= 1) {
                    stack[top - 1] = valley.allMen() & ~stack[top - 1];
                } else if (step == W_AND && top >= 2) {
                    top--;
                    stack[top - 1] &= stack[top];
                } else if (step == W_OR && top >= 2) {
                    top--;
                    stack[top - 1] |= stack[top];
                } else if (top < CODE_MOST) {
                    stack[top] = menOfStep(i, valley, days, acts);
                    top++;
                }
            }
            return top == 1 ? stack[0] : 0;
        }

        private int menOfStep(int i, Valley valley, Days days, Acts acts) {
            switch (word[i]) {
                case W_SWORN:
                    return days.swornMen(valley.men);
                case W_LIED:
                    return acts.liars(days);
                case W_ON:
                    return days.menOn(value[i], valley.men);
                case W_HEARD:
                    return acts.hearersSoFar(days);
                default:
                    return menWhoAre(i, valley, days);
            }
        }

        private int menWhoAre(int i, Valley valley, Days days) {
            int men = 0;
            for (int m = 0; m < valley.men; m++) {
                if (isSo(i, measure(word[i], m, valley, days))) {
                    men |= 1 << m;
                }
            }
            return men;
        }

        private boolean isSo(int i, int measured) {
            switch (sign[i]) {
                case LESS:
                    return measured < value[i];
                case MORE:
                    return measured > value[i];
                default:
                    return measured == value[i];
            }
        }

        /** What a step's SIGN compares: for 'old' and 'deaf' 1 of those who are, 0 of others. */
        private static int measure(int what, int m, Valley valley, Days days) {
            switch (what) {
                case W_OLD:
                    return valley.man[m][OLD];
                case W_DEAF:
                    return valley.man[m][BY] == NONE ? 0 : 1;
                case W_COIN:
                    return days.coins[m];
                case W_STORE:
                    return days.store[m];
                case W_EAR:
                    return valley.man[m][EAR];
                default:
                    return m;
            }
        }
    }

    /** Reads the tape as a SENTENCE. */
    private static final class SentenceText {
        private final Tape tape;
        private final Valley valley;
        private final Sentence into;

        SentenceText(Tape tape, Valley valley, Sentence into) {
            this.tape = tape;
            this.valley = valley;
            this.into = into;
        }

        boolean read() {
            into.clear();
            if (!readCond(1)) {
                return false;
            }
            if (tape.token != END) {
                return tape.blame(FAULT_TOKEN);
            }
            into.told = true;
            return true;
        }

        private boolean readCond(int depth) {
            if (!readAll(depth)) {
                return false;
            }
            for (int i = 0; i < SENTENCE_MOST && tape.token == W_OR; i++) {
                tape.next();
                if (!readAll(depth) || !into.add(W_OR, NONE, NONE)) {
                    return false;
                }
            }
            return true;
        }

        private boolean readAll(int depth) {
            if (!readOne(depth)) {
                return false;
            }
            for (int i = 0; i < SENTENCE_MOST && tape.token == W_AND; i++) {
                tape.next();
                if (!readOne(depth) || !into.add(W_AND, NONE, NONE)) {
                    return false;
                }
            }
            return true;
        }

        private boolean readOne(int depth) {
            int word = tape.token;
            if (!beginsOne(word)) {
                return tape.blame(FAULT_TOKEN);
            }
            if (into.ones >= ONES_MOST || depth > WITHIN_MOST) {
                return tape.blame(FAULT_MANY);
            }
            into.ones++;
            tape.next();
            switch (word) {
                case W_NOT:
                    return readOne(depth + 1) && into.add(W_NOT, NONE, NONE);
                case OPEN:
                    return readCond(depth + 1) && tape.take(CLOSE);
                case W_ON:
                    return readOn();
                case W_COIN:
                case W_STORE:
                case W_EAR:
                case W_NUMBER:
                    return readMeasure(word);
                default:
                    return into.add(word, EQUAL, 1);
            }
        }

        private static boolean beginsOne(int word) {
            switch (word) {
                case W_NOT:
                case OPEN:
                case W_OLD:
                case W_DEAF:
                case W_SWORN:
                case W_LIED:
                case W_ON:
                case W_HEARD:
                case W_COIN:
                case W_STORE:
                case W_EAR:
                case W_NUMBER:
                    return true;
                default:
                    return false;
            }
        }

        private boolean readOn() {
            int h = tape.hillHere(valley);
            if (h == NONE) {
                return false;
            }
            tape.next();
            return into.add(W_ON, EQUAL, h);
        }

        private boolean readMeasure(int word) {
            int sign = tape.token;
            if (sign != LESS && sign != EQUAL && sign != MORE) {
                return tape.blame(FAULT_TOKEN);
            }
            tape.next();
            return tape.takeNumber(0, 999) && into.add(word, sign, tape.value);
        }
    }

    /** What image() keeps in one place. */
    private static final class Image {
        private final Valley valley = new Valley();
        private final Days days = new Days();
        private final Sentence sentence = new Sentence();
        private boolean kept;

        void keep(Valley fromValley, Days fromDays, Sentence fromSentence) {
            valley.copyFrom(fromValley);
            days.copyFrom(fromDays);
            sentence.copyFrom(fromSentence);
            kept = true;
        }

        void giveBack(Valley toValley, Days toDays, Sentence toSentence) {
            toValley.copyFrom(valley);
            toDays.copyFrom(days);
            toSentence.copyFrom(sentence);
        }
    }
}
