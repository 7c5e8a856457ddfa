/** The Terms' part 1: each sentence on TOKENS, a VALLEY, a ROLL, a SENTENCE and FAULTS that names an edge. */
public final class EdgesOfTextsTest {
    private static final String MEN = "hill h 0 0;man m h 0 0;man n h 0 0;man o h 0 0;";
    private static final String TEN_CALLS = "flight 1 1 0 0 0 1 0 0 2 0 0 3 0 0 4 0 0 5 0 0 6 0 0 7 0 0 8 0 0 9 0 0";
    private static final Check CHECK = new Check();

    public static void main(String[] args) {
        blanks();
        words();
        numbers();
        runs();
        valleyBytes();
        valleyLines();
        ridge();
        wheat();
        wind();
        hill();
        fall();
        man();
        old();
        deaf();
        needs();
        chanceAndLoud();
        hours();
        placesOfCalls();
        tenCalls();
        names();
        eightHills();
        eightMen();
        fourFlights();
        rollBytes();
        fortyLines();
        rollComes();
        rollHour();
        rollOfMen();
        sentenceBytes();
        sentenceOrder();
        sentenceOnes();
        sentenceWithin();
        sentenceMeasures();
        firstAlong();
        leastOfOne();
        faultOne();
        faultOneTooLong();
        faultTwo();
        faultThree();
        faultFour();
        CHECK.end();
    }

    private static void valleyNumber(String ahead, String behind, int low, int high) {
        CHECK.valleyLines(ahead + low + behind, ahead.split(";").length);
        CHECK.valleyLines(ahead + high + behind, ahead.split(";").length);
        if (low > 0) {
            CHECK.valleyFault(ahead + (low - 1) + behind, ahead.length(), 2);
        }
        // A number of four digits is no TOKEN.
        CHECK.valleyFault(ahead + (high + 1) + behind, ahead.length(), high == 999 ? 1 : 2);
    }

    // ---- TOKENS

    private static void blanks() {
        CHECK.about("TOKENS, with blanks (32, 10) between them or not");
        CHECK.valleyLines("ridge 1;wheat 2;", 2);
        CHECK.valleyLines("\n ridge\n\n1 ;\n wheat  2\n;\n ", 2);
        CuckooShares x = Check.valleyOf(MEN);
        CHECK.due("no blanks", Check.sentence(x, "(old)and(coin<1)"), 4);
        CHECK.due("blanks", Check.sentence(x, " ( old\n) and (\ncoin < 1 )\n"), 4);
        for (int sign = 0; sign < 256; sign++) {
            String text = "ridge" + (char) sign + "1;";
            boolean goesOn = sign >= 'a' && sign <= 'z' || sign >= '0' && sign <= '9';
            if (sign == 32 || sign == 10) {
                CHECK.valleyLines(text, 1);
            } else {
                CHECK.valleyFault(text, goesOn ? 0 : 5, 1);
            }
        }
    }

    private static void words() {
        CHECK.about("WORDS: small letters, 1 to 7");
        CHECK.valleyLines("hill a 0 0;", 1);
        CHECK.valleyLines("hill z 0 0;", 1);
        CHECK.valleyLines("hill abcdefg 0 0;", 1);
        CHECK.valleyFault("hill abcdefgh 0 0;", 5, 1);
        CHECK.valleyFault("hill A 0 0;", 5, 1);
        CHECK.valleyFault("hill aB 0 0;", 6, 1);
        CHECK.valleyFault("hill ` 0 0;", 5, 1);
        CHECK.valleyFault("hill { 0 0;", 5, 1);
        CHECK.about("NAMES are told apart by each letter, and by how many there are");
        CHECK.valleyLines("hill aaaaaaa 0 0;hill aaaaaab 0 0;hill zzzzzzz 0 0;hill zzzzzz 0 0;", 4);
        CHECK.valleyLines("hill a 0 0;hill aa 0 0;hill aaa 0 0;hill ab 0 0;hill ba 0 0;hill az 0 0;hill b 0 0;hill zb 0 0;", 8);
        CHECK.valleyFault("hill zzzzzzz 0 0;hill zzzzzzz 0 0;", 22, 3);
    }

    private static void numbers() {
        CHECK.about("NUMBERS: 1 to 3 digits");
        CHECK.valleyLines("wheat 5;", 1);
        CHECK.valleyLines("wheat 005;", 1);
        CHECK.due("wheat 005", Check.valleyOf("wheat 005;").count(4), 5);
        CHECK.due("wheat 010 is no octal", Check.valleyOf("wheat 010;").count(4), 10);
        CHECK.valleyFault("wheat 0005;", 6, 1);
        CHECK.valleyFault("wheat 99999999999999999999;", 6, 1);
        CHECK.valleyFault("wheat -5;", 6, 1);
        CHECK.valleyFault("wheat +5;", 6, 1);
        CHECK.valleyFault("wheat / 0;", 6, 1);
        CHECK.valleyFault("wheat : 0;", 6, 1);
    }

    private static void runs() {
        CHECK.about("A WORD, NUMBER goes on as long as small letters and digits do; what is not as told is no TOKEN");
        CHECK.valleyFault("ridge1;", 0, 1);
        CHECK.valleyFault("ridge 1a;", 6, 1);
        CHECK.valleyFault("hill a1 0 0;", 5, 1);
        CHECK.valleyFault("hill 1a 0 0;", 5, 1);
        CHECK.valleyFault("ridge 1;wheat2;", 8, 1);
        CHECK.valleyFault("flight 1 1 500a 0 0;", 11, 1);
        CHECK.sentenceFault(MEN, "coin<1or old", 5, 1);
        CHECK.sentenceFault(MEN, "oldor deaf", 0, 1);
        CHECK.valleyFault("hill aaaa1 0 0;", 5, 1);
        CHECK.valleyFault("hill 0000000a 0 0;", 5, 1);
    }

    // ---- a VALLEY

    private static void valleyBytes() {
        CHECK.about("A VALLEY is a text of at most 900 bytes");
        CHECK.valleyLines(" ".repeat(892) + "ridge 1;", 1);
        CHECK.valleyLines("ridge 1;" + " ".repeat(892), 1);
        CHECK.valleyFault("ridge 1;" + " ".repeat(893), 900, 1);
        CHECK.valleyFault(" ".repeat(893) + "ridge 1;", 900, 1);
        CHECK.valleyFault(" ".repeat(940), 900, 1);
    }

    private static void valleyLines() {
        CHECK.about("{ LINE ; }");
        CHECK.valleyLines("", 0);
        CHECK.valleyLines(" ", 0);
        CHECK.valleyFault(";", 0, 1);
        CHECK.valleyFault("ridge 1", 7, 1);
        CHECK.valleyFault("ridge 1;;", 8, 1);
        CHECK.valleyFault("ridge 1 wheat 1;", 8, 1);
        String many = "ridge 0;wheat 0;wind east 0;" + MEN + "fall h 0;old m;deaf m n;needs m 0;flight 1 0;";
        CHECK.valleyLines(many, 12);
    }

    private static void ridge() {
        CHECK.about("'ridge' X (0 to 20; once)");
        valleyNumber("ridge ", ";", 0, 20);
        CHECK.valleyFault("ridge 1;ridge 1;", 8, 3);
        CHECK.valleyFault("ridge 0;wheat 1;ridge 2;", 16, 3);
        CHECK.about("places with a greater X are in valley 1, all others, all without, in valley 0");
        String places = "hill a 6 0;hill b 7 0;hill c 20 0;hill d 0 20;flight 1 0 0 6 0 1 7 0 2 20 0 3 0 20;";
        for (int ridge = -1; ridge <= 20; ridge++) {
            CuckooShares x = Check.valleyOf(ridge < 0 ? places : places + "ridge " + ridge + ";");
            int[] xs = {6, 7, 20, 0};
            for (int i = 0; i < 4; i++) {
                int side = ridge >= 0 && xs[i] > ridge ? 1 : 0;
                CHECK.due("ridge " + ridge + ": hill " + i, x.hill(i, 3), side);
                CHECK.due("ridge " + ridge + ": call " + i, x.call(0, i, 3), side);
            }
        }
    }

    private static void wheat() {
        CHECK.about("'wheat' N (0 to 999; once)");
        valleyNumber("wheat ", ";", 0, 999);
        CHECK.valleyFault("wheat 1;wheat 1;", 8, 3);
        CHECK.due("0", Check.valleyOf("wheat 0;").count(4), 0);
        CHECK.due("999", Check.valleyOf("wheat 999;").count(4), 999);
        CHECK.about("99 without");
        CHECK.due("count(4)", Check.valleyOf("ridge 1;").count(4), 99);
        CHECK.about("in each valley");
        CuckooShares x = Check.valleyOf("wheat 7;ridge 5;hill a 0 0;hill b 9 0;man m a 9 0;man n b 9 0;flight 1 9 0 5 0;");
        CHECK.due("valley 0", x.honest(0, 0), 7);
        CHECK.due("valley 1", x.honest(1, 0), 7);
    }

    private static void wind() {
        CHECK.about("'wind' N (0 to 9; once)");
        String[] ways = {"north", "east", "south", "west"};
        for (String way : ways) {
            valleyNumber("wind " + way + " ", ";", 0, 9);
            CHECK.valleyFault("wind east 0;wind " + way + " 1;", 12, 3);
        }
        CHECK.valleyFault("wind 1;", 5, 1);
        CHECK.valleyFault("wind hill 1;", 5, 1);
        CHECK.valleyFault("wind fall 1;", 5, 1);
        CHECK.valleyFault("wind wind 1;", 5, 1);
        CHECK.valleyFault("wind north;", 10, 1);
    }

    private static void hill() {
        CHECK.about("'hill' NAME X Y (0 to 20)");
        valleyNumber("hill h ", " 0;", 0, 20);
        valleyNumber("hill h 0 ", ";", 0, 20);
        CHECK.valleyFault("hill h 0;", 8, 1);
        CHECK.valleyFault("hill 0 0;", 5, 1);
    }

    private static void fall() {
        CHECK.about("'fall' HILL N (0 to 9; each HILL once)");
        valleyNumber("hill h 0 0;fall h ", ";", 0, 9);
        CHECK.valleyFault("hill h 0 0;fall h 0;fall h 0;", 25, 3);
        CHECK.valleyLines("hill h 0 0;hill g 0 0;fall h 1;fall g 1;", 4);
        CHECK.valleyFault("hill h 0 0;hill g 0 0;fall g 1;fall h 1;fall g 1;", 45, 3);
    }

    private static void man() {
        CHECK.about("'man' NAME HILL EAR COIN (0 to 9 both)");
        valleyNumber("hill h 0 0;man m h ", " 0;", 0, 9);
        valleyNumber("hill h 0 0;man m h 0 ", ";", 0, 9);
        CHECK.valleyFault("hill h 0 0;man m 0 0;", 17, 1);
    }

    private static void old() {
        CHECK.about("'old' MAN (each once)");
        CHECK.valleyLines(MEN + "old m;old n;", 6);
        CHECK.valleyFault(MEN + "old m;old n;old m;", 63, 3);
    }

    private static void deaf() {
        CHECK.about("'deaf' MAN MAN (unlike; each first one once)");
        CHECK.valleyLines(MEN + "deaf m o;deaf n o;deaf o m;", 7);
        CHECK.valleyFault(MEN + "deaf m m;", 54, 3);
        CHECK.valleyFault(MEN + "deaf m o;deaf m n;", 61, 3);
        CHECK.valleyFault(MEN + "deaf m o;deaf m m;", 61, 3);
        CHECK.valleyFault(MEN + "deaf m;", 53, 1);
    }

    private static void needs() {
        CHECK.about("'needs' MAN N (0 to 999; each MAN once)");
        valleyNumber(MEN + "needs m ", ";", 0, 999);
        CHECK.valleyFault(MEN + "needs m 0;needs m 0;", 63, 3);
        CHECK.valleyLines(MEN + "needs m 0;needs n 0;needs o 0;", 7);
    }

    private static void chanceAndLoud() {
        CHECK.about("'flight' CHANCE LOUD (1 to 9; 0 to 20)");
        valleyNumber("flight ", " 0;", 1, 9);
        valleyNumber("flight 1 ", ";", 0, 20);
        CHECK.valleyFault("flight;", 6, 1);
        CHECK.valleyFault("flight 1;", 8, 1);
    }

    private static void hours() {
        CHECK.about("HOURS 0 to 99, each later than the one ahead");
        valleyNumber("flight 1 0 ", " 0 0;", 0, 99);
        valleyNumber("flight 1 0 7 0 0 ", " 0 0;", 8, 99);
        valleyNumber("flight 1 0 0 0 0 ", " 0 0;", 1, 99);
        valleyNumber("flight 1 0 98 0 0 ", " 0 0;", 99, 99);
        CHECK.valleyFault("flight 1 0 99 0 0 99 0 0;", 18, 2);
        CHECK.valleyFault("flight 1 0 7 0 0 0 0 0;", 17, 2);
        CHECK.valleyLines("flight 1 0 99 0 0;flight 1 0 0 0 0;", 2);
    }

    private static void placesOfCalls() {
        CHECK.about("{ HOUR X Y } .. 0 to 20 both");
        valleyNumber("flight 1 0 5 ", " 0;", 0, 20);
        valleyNumber("flight 1 0 5 0 ", ";", 0, 20);
        CHECK.valleyLines("flight 1 0;", 1);
        CHECK.valleyFault("flight 1 0 5;", 12, 1);
        CHECK.valleyFault("flight 1 0 5 0;", 14, 1);
        CHECK.valleyFault("flight 1 0 5 0 0 6;", 18, 1);
    }

    private static void tenCalls() {
        CHECK.about("10 CALLS at most");
        CHECK.valleyLines(TEN_CALLS + ";" + TEN_CALLS + ";", 2);
        CHECK.due("flight(0, 2)", Check.valleyOf(TEN_CALLS + ";").flight(0, 2), 10);
        CHECK.valleyFault(TEN_CALLS + " 10 0 0;", 71, 4);
    }

    private static void names() {
        CHECK.about("NAME: a WORD, none of those told here, in a ROLL or a SENTENCE");
        for (String word : Check.RESERVED) {
            CHECK.valleyFault("hill " + word + " 0 0;", 5, 1);
            CHECK.valleyFault("hill h 0 0;man " + word + " h 0 0;", 15, 1);
            CHECK.valleyFault("hill h 0 0;fall " + word + " 0;", 16, 1);
            CHECK.valleyFault("hill h 0 0;old " + word + ";", 15, 1);
            CHECK.valleyLines("hill " + word.substring(1) + "x 0 0;", 1);
            CHECK.valleyLines("hill x" + word.substring(1) + " 0 0;", 1);
            CHECK.valleyLines("hill " + word + "x 0 0;", 1);
            CHECK.valleyLines("hill " + word.substring(0, word.length() - 1) + " 0 0;", 1);
        }
        CHECK.about("NAME: told once");
        CHECK.valleyFault("hill h 0 0;hill h 0 0;", 16, 3);
        CHECK.valleyFault("hill h 0 0;man h h 0 0;", 15, 3);
        CHECK.valleyFault("hill h 0 0;man m h 0 0;man m h 0 0;", 27, 3);
        CHECK.valleyFault("hill h 0 0;man m h 0 0;hill m 0 0;", 28, 3);
    }

    private static String hills(int n) {
        StringBuilder text = new StringBuilder();
        for (int h = 0; h < n; h++) {
            text.append("hill h").append((char) ('a' + h)).append(' ').append(h).append(" 0;");
        }
        return text.toString();
    }

    private static String men(int n) {
        StringBuilder text = new StringBuilder("hill h 0 0;");
        for (int m = 0; m < n; m++) {
            text.append("man m").append((char) ('a' + m)).append(" h ").append(m).append(" 0;");
        }
        return text.toString();
    }

    private static void eightHills() {
        CHECK.about("8 HILLS at most, numbered from 0");
        CuckooShares x = Check.valleyOf(hills(8));
        CHECK.due("count(0)", x.count(0), 8);
        for (int h = 0; h < 8; h++) {
            CHECK.due("X of HILL " + h, x.hill(h, 0), h);
        }
        CHECK.due("hill(8, 0)", x.hill(8, 0), -1);
        CHECK.valleyFault(hills(9), hills(8).length(), 4);
        CHECK.valleyFault(hills(8) + "ridge 1; hill", hills(8).length() + 9, 4);
    }

    private static void eightMen() {
        CHECK.about("8 MEN at most, numbered from 0");
        CuckooShares x = Check.valleyOf(men(8));
        CHECK.due("count(1)", x.count(1), 8);
        for (int m = 0; m < 8; m++) {
            CHECK.due("EAR of MAN " + m, x.man(m, 1), m);
        }
        CHECK.throwing("man(8, 1)", () -> x.man(8, 1));
        CHECK.valleyFault(men(9), men(8).length(), 4);
        CHECK.valleyFault(men(8) + "man", men(8).length(), 4);
    }

    private static void fourFlights() {
        CHECK.about("4 FLIGHTS at most, numbered from 0");
        String four = "flight 1 0;flight 2 0;flight 3 0;flight 4 0;";
        CuckooShares x = Check.valleyOf(four);
        CHECK.due("count(2)", x.count(2), 4);
        for (int f = 0; f < 4; f++) {
            CHECK.due("CHANCE of FLIGHT " + f, x.flight(f, 0), f + 1);
        }
        CHECK.due("flight(4, 0)", x.flight(4, 0), -1);
        CHECK.valleyFault(four + "flight 5 0;", 44, 4);
        CHECK.valleyFault(four + "flight", 44, 4);
        CHECK.about("the CALLS of a FLIGHT numbered from 0");
        CuckooShares y = Check.valleyOf(TEN_CALLS + ";flight 1 0 9 9 9;");
        for (int k = 0; k < 10; k++) {
            CHECK.due("HOUR of CALL " + k, y.call(0, k, 0), k);
        }
        CHECK.due("call(0, 10, 0) is not the next FLIGHT's", y.call(0, 10, 0), -1);
        CHECK.due("call(1, 0, 0)", y.call(1, 0, 0), 9);
        CHECK.due("call(1, -1, 0)", y.call(1, -1, 0), -1);
    }

    // ---- a ROLL

    private static void rollGood(String text, int line) {
        CuckooShares x = Check.valleyOf(MEN);
        CHECK.due("roll(0) of " + text, Check.roll(x, text, 0), line);
        CHECK.due("fault() of " + text, x.fault(), 0);
    }

    private static void rollBytes() {
        CHECK.about("A ROLL is a text of at most 400 bytes");
        rollGood(" ".repeat(400), -1);
        rollGood(" ".repeat(393) + "hour 1;", -1);
        CHECK.rollFault(MEN, " ".repeat(401), 400, 1);
        CHECK.rollFault(MEN, " ".repeat(394) + "hour 1;", 400, 1);
        CHECK.about("a ROLL: { LINE ; }");
        rollGood("", -1);
        CHECK.rollFault(MEN, ";", 0, 1);
        CHECK.rollFault(MEN, "hour 1", 6, 1);
        CHECK.rollFault(MEN, "hour 1;;", 7, 1);
    }

    private static void fortyLines() {
        CHECK.about("{ LINE ; }, 40 at most");
        rollGood("hour 1;".repeat(40), -1);
        CHECK.rollFault(MEN, "hour 1;".repeat(41), 280, 4);
        CHECK.rollFault(MEN, "hour 1;".repeat(40) + "\nm moves h;", 281, 4);
        CHECK.rollFault(MEN, "hour 1;".repeat(40) + "comes 9;", 280, 4);
    }

    private static void rollComes() {
        CHECK.about("'comes' N (0 to 3)");
        for (int n = 0; n < 4; n++) {
            rollGood("comes " + n + ";", 0);
        }
        CHECK.rollFault(MEN, "comes 4;", 6, 2);
        CHECK.rollFault(MEN, "comes;", 5, 1);
    }

    private static void rollHour() {
        CHECK.about("'hour' N (1 to 99 go by)");
        CHECK.rollFault(MEN, "hour 0;", 5, 2);
        rollGood("hour 1;", -1);
        rollGood("hour 99;", -1);
        CHECK.rollFault(MEN, "hour 100;", 5, 2);
        CuckooShares x = Check.valleyOf(MEN);
        CHECK.due("99 at most", Check.roll(x, "hour 98;hour 99;hour 1;", 1), -1);
        CHECK.due("now(2)", x.now(2), 99);
    }

    private static void rollOfMen() {
        CHECK.about("MAN ( 'moves' HILL | 'swears' N (0 to 9) | 'calls' MAN )");
        rollGood("m swears 0;", 0);
        rollGood("m swears 9;", 0);
        CHECK.rollFault(MEN, "m swears 10;", 9, 2);
        CHECK.rollFault(MEN, "m swears;", 8, 1);
        rollGood("m moves h;", 0);
        CHECK.rollFault(MEN, "m moves n;", 8, 3);
        CHECK.rollFault(MEN, "m moves x;", 8, 3);
        CHECK.rollFault(MEN, "m moves 1;", 8, 1);
        rollGood("m calls m;", 0);
        CHECK.rollFault(MEN, "m calls h;", 8, 3);
        CHECK.rollFault(MEN, "h calls m;", 0, 3);
        CHECK.rollFault(MEN, "x calls m;", 0, 3);
        CHECK.rollFault(MEN, "m;", 1, 1);
        CHECK.rollFault(MEN, "m shares;", 2, 1);
        CHECK.rollFault(MEN, "shares m;", 7, 1);
    }

    // ---- a SENTENCE

    private static void ones(String text, int ones) {
        CuckooShares x = Check.valleyOf(MEN);
        CHECK.due("sentence() of " + text, Check.sentence(x, text), ones);
        CHECK.due("fault() of " + text, x.fault(), 0);
    }

    private static void sentenceBytes() {
        CHECK.about("A SENTENCE is a text of at most 200 bytes");
        ones("old" + " ".repeat(197), 1);
        ones(" ".repeat(197) + "old", 1);
        CHECK.sentenceFault(MEN, "old" + " ".repeat(198), 200, 1);
        CHECK.sentenceFault(MEN, " ".repeat(198) + "old", 200, 1);
        CHECK.about("a SENTENCE: COND: ALL { 'or' ALL }");
        CHECK.sentenceFault(MEN, "", 0, 1);
        CHECK.sentenceFault(MEN, "or old", 0, 1);
        CHECK.sentenceFault(MEN, "old or", 6, 1);
        CHECK.sentenceFault(MEN, "old;", 3, 1);
        CHECK.sentenceFault(MEN, "old deaf", 4, 1);
    }

    private static void sentenceOrder() {
        CHECK.about("ALL: ONE { 'and' ONE }; 'not' ONE");
        CuckooShares x = Check.valleyOf(MEN + "old m;deaf n o;");
        String[] texts = {"old or deaf and number=2", "number=2 and deaf or old", "(old or deaf) and number=1",
            "not old and deaf", "not (old and deaf)", "not not old", "old and deaf or number=2 and not old"};
        int[] men = {1, 1, 1, 1, 3, 1, 1};
        int[] first = {0, 0, 1, 1, 0, 0, 2};
        for (int i = 0; i < texts.length; i++) {
            Check.sentence(x, texts[i]);
            CHECK.due("said(-1) of " + texts[i], x.said(-1), men[i]);
            CHECK.due("said(0) of " + texts[i], x.said(0), first[i]);
        }
        CHECK.sentenceFault(MEN, "( old", 5, 1);
        CHECK.sentenceFault(MEN, "old )", 4, 1);
        CHECK.sentenceFault(MEN, "( )", 2, 1);
    }

    private static void sentenceOnes() {
        CHECK.about("20 ONES");
        ones("old" + " or old".repeat(19), 20);
        CHECK.sentenceFault(MEN, "old" + " or old".repeat(20), 140, 4);
        ones("not old" + " or (old)".repeat(9), 20);
        CHECK.sentenceFault(MEN, "not old" + " or (old)".repeat(9) + " or lied", 92, 4);
        CHECK.sentenceFault(MEN, "old" + " or old".repeat(18) + " or not lied", 137, 4);
        CHECK.sentenceFault(MEN, "old" + " or old".repeat(18) + " or (lied)", 134, 4);
    }

    private static void sentenceWithin() {
        CHECK.about("8 within one another");
        ones("(".repeat(7) + "old" + ")".repeat(7), 8);
        CHECK.sentenceFault(MEN, "(".repeat(8) + "old" + ")".repeat(8), 8, 4);
        CHECK.sentenceFault(MEN, "(".repeat(9) + "old" + ")".repeat(9), 8, 4);
        ones("not ".repeat(7) + "old", 8);
        CHECK.sentenceFault(MEN, "not ".repeat(8) + "old", 32, 4);
        ones("(((((((old)))))))and(((((((old)))))))", 16);
        ones("(((((((old and old or old)))))))", 10);
        CHECK.sentenceFault(MEN, "(((((((old and not old)))))))", 19, 4);
    }

    private static void sentenceMeasures() {
        CHECK.about("( 'coin' | 'store' | 'ear' | 'number' ) SIGN NUMBER");
        String[] measures = {"coin", "store", "ear", "number"};
        for (String word : measures) {
            ones(word + " > 0", 1);
            ones(word + "<999", 1);
            ones(word + " = 007", 1);
            CHECK.sentenceFault(MEN, word + " = 1000", word.length() + 3, 1);
            CHECK.sentenceFault(MEN, word + " 1", word.length() + 1, 1);
            CHECK.sentenceFault(MEN, word + " =", word.length() + 2, 1);
            CHECK.sentenceFault(MEN, word + " =< 1", word.length() + 2, 1);
            CHECK.sentenceFault(MEN, word + " ; 1", word.length() + 1, 1);
            CHECK.sentenceFault(MEN, word + " ( 1", word.length() + 1, 1);
        }
        CHECK.about("'on' HILL");
        ones("on h", 1);
        CHECK.sentenceFault(MEN, "on m", 3, 3);
        CHECK.sentenceFault(MEN, "on x", 3, 3);
        CHECK.sentenceFault(MEN, "on 1", 3, 1);
        CHECK.sentenceFault(MEN, "on on", 3, 1);
        CHECK.sentenceFault(MEN, "h", 0, 1);
    }

    // ---- FAULTS

    private static void firstAlong() {
        CHECK.about("FAULTS, the first along the text");
        CHECK.valleyFault("ridge 21;wheat 1000;", 6, 2);
        CHECK.valleyFault("wheat 1000;ridge 21;", 6, 1);
        CHECK.valleyFault("hill h 0 0;hill h 21 0;", 16, 3);
        CHECK.valleyFault("hill h 21 0;hill h 0 0;", 7, 2);
        CHECK.valleyFault(hills(8) + "hill ha 21 0", hills(8).length(), 4);
        CHECK.valleyFault("ridge 1;ridge", 8, 3);
        CHECK.rollFault(MEN, "comes 4;x moves y;", 6, 2);
        CHECK.rollFault(MEN, "m moves x;comes 4;", 8, 3);
        CHECK.sentenceFault(MEN, "on x or coin = 1000", 3, 3);
        CHECK.sentenceFault(MEN, "coin = 1000 or on x", 7, 1);
    }

    private static void leastOfOne() {
        CHECK.about("of one TOKEN the least");
        String forty = "hour 1;".repeat(40);
        CHECK.rollFault(MEN, forty + "x moves h;", 280, 3);
        CHECK.rollFault(MEN, forty + "h moves h;", 280, 3);
        CHECK.rollFault(MEN, forty + ";", 280, 1);
        CHECK.rollFault(MEN, forty + "moves h;", 280, 1);
        CHECK.rollFault(MEN, forty + "#", 280, 1);
        String twenty = "old" + " or old".repeat(19);
        CHECK.sentenceFault(MEN, twenty + " or )", 140, 1);
        CHECK.sentenceFault(MEN, twenty + " or m", 140, 1);
        CHECK.sentenceFault(MEN, twenty + " or #", 140, 1);
        CHECK.sentenceFault(MEN, "(".repeat(8) + ")", 8, 1);
        CHECK.sentenceFault(MEN, "not ".repeat(8) + "and", 32, 1);
        CHECK.valleyFault(TEN_CALLS + " 1000 0 0;", 71, 1);
        CHECK.valleyFault(TEN_CALLS + " h", 71, 1);
    }

    private static void faultOne() {
        CHECK.about("1 no TOKEN, or one that can't come (at it)");
        CHECK.valleyFault("\u0000ridge 1;", 0, 1);
        CHECK.valleyFault("ridge 1;\u00ff", 8, 1);
        CHECK.valleyFault("hour 1;", 0, 1);
        CHECK.valleyFault("ridge (1);", 6, 1);
        CHECK.valleyFault("ridge wheat;", 6, 1);
        CHECK.valleyFault("h 1 1;", 0, 1);
        CHECK.valleyFault("5;", 0, 1);
        CHECK.rollFault(MEN, "ridge 1;", 0, 1);
        CHECK.rollFault(MEN, "hour 1.", 6, 1);
        CHECK.sentenceFault(MEN, "shares", 0, 1);
        CHECK.about("the end: how many bytes there are");
        CHECK.valleyFault("ridge", 5, 1);
        CHECK.valleyFault("ridge 1", 7, 1);
        CHECK.valleyFault("ridge 1 \n ", 10, 1);
        CHECK.valleyFault("ridge 1" + " ".repeat(893), 900, 1);
        CHECK.rollFault(MEN, "m moves ", 8, 1);
        CHECK.rollFault(MEN, "shares" + " ".repeat(394), 400, 1);
        CHECK.sentenceFault(MEN, "", 0, 1);
        CHECK.sentenceFault(MEN, "\n\n", 2, 1);
        CHECK.sentenceFault(MEN, "old and ", 8, 1);
        CHECK.sentenceFault(MEN, "not" + " ".repeat(197), 200, 1);
    }

    private static void faultOneTooLong() {
        CHECK.about("the most bytes told, if there are more and no FAULT is ahead");
        CHECK.valleyFault("ridge 1;" + " ".repeat(893), 900, 1);
        CHECK.valleyFault("ridge 1" + " ".repeat(894), 900, 1);
        CHECK.valleyFault("ridge 21" + " ".repeat(900), 6, 2);
        CHECK.valleyFault(" ".repeat(900) + "#", 900, 1);
        CHECK.valleyFault(" ".repeat(899) + "##", 899, 1);
        CHECK.valleyFault(" ".repeat(920) + "ridge 21;", 900, 1);
        CHECK.rollFault(MEN, "hour 1;" + " ".repeat(900), 400, 1);
        CHECK.rollFault(MEN, "comes 4;" + " ".repeat(900), 6, 2);
        CHECK.sentenceFault(MEN, "old" + " ".repeat(900), 200, 1);
        CHECK.sentenceFault(MEN, "on x" + " ".repeat(900), 3, 3);
        CHECK.about("TOKENS that begin ahead of it are read whole");
        CHECK.valleyFault(" ".repeat(892) + "ridge 21;", 898, 2);
        CHECK.valleyFault(" ".repeat(893) + "ridge 21;", 899, 2);
        CHECK.valleyFault(" ".repeat(894) + "ridge 21;", 900, 1);
        CHECK.valleyFault(" ".repeat(899) + "ridge 1;", 900, 1);
        CHECK.valleyFault(" ".repeat(899) + "ridges 1;", 899, 1);
        CHECK.valleyFault(" ".repeat(899) + "ridge1", 899, 1);
        CHECK.rollFault(MEN, " ".repeat(399) + "shares;", 400, 1);
        CHECK.rollFault(MEN, " ".repeat(399) + "share;", 399, 3);
        CHECK.rollFault(MEN, " ".repeat(394) + "hour 100;", 399, 2);
        CHECK.sentenceFault(MEN, " ".repeat(199) + "old", 200, 1);
        CHECK.sentenceFault(MEN, " ".repeat(199) + "olds", 199, 1);
        CHECK.sentenceFault(MEN, " ".repeat(196) + "on hh", 199, 3);
    }

    private static void faultTwo() {
        CHECK.about("2 a NUMBER that is not as told (at it; an HOUR that is not later, too)");
        CHECK.valleyFault("hill h 0  21;", 10, 2);
        CHECK.valleyFault("flight 1 0 5 0 0 \n5 0 0;", 18, 2);
        CHECK.valleyFault("flight 1 0 5 0 0 6 0 0 4 0 0;", 23, 2);
        CHECK.rollFault(MEN, "m swears 999;", 9, 2);
        CHECK.about("-1 less the place: the first place is -1 for a VALLEY and a SENTENCE, -2 for a ROLL");
        CuckooShares x = new CuckooShares();
        CHECK.due("valley()", Check.valley(x, "#"), -1);
        CHECK.due("sentence()", Check.sentence(x, "#"), -1);
        CHECK.due("roll(0)", Check.roll(x, "#", 0), -2);
    }

    private static void faultThree() {
        CHECK.about("3 a NAME told twice, not told, or of another sort (at it)");
        CHECK.valleyFault("hill  h 0 0;hill  h 0 0;", 18, 3);
        CHECK.valleyFault("man m h 0 0;", 6, 3);
        CHECK.valleyFault("fall h 1;hill h 0 0;", 5, 3);
        CHECK.valleyFault("hill h 0 0;man m m 0 0;", 17, 3);
        CHECK.valleyFault(MEN + "man p m 0 0;", 53, 3);
        CHECK.valleyFault(MEN + "fall m 0;", 52, 3);
        CHECK.valleyFault(MEN + "old h;", 51, 3);
        CHECK.valleyFault(MEN + "old x;", 51, 3);
        CHECK.valleyFault(MEN + "needs h 0;", 53, 3);
        CHECK.valleyFault(MEN + "needs x 0;", 53, 3);
        CHECK.valleyFault(MEN + "deaf h m;", 52, 3);
        CHECK.valleyFault(MEN + "deaf x m;", 52, 3);
        CHECK.valleyFault(MEN + "deaf m h;", 54, 3);
        CHECK.valleyFault(MEN + "deaf m x;", 54, 3);
        CHECK.about("what is told once told again (at it, at the WORD)");
        CHECK.valleyFault("ridge 1; ridge 1;", 9, 3);
        CHECK.valleyFault("wheat 1; wheat 1;", 9, 3);
        CHECK.valleyFault("wind east 1; wind west 1;", 13, 3);
        CHECK.valleyFault("hill h 0 0;fall h 1; fall  h 1;", 27, 3);
        CHECK.valleyFault(MEN + "old m; old  m;", 59, 3);
        CHECK.valleyFault(MEN + "deaf m n; deaf  m o;", 63, 3);
        CHECK.valleyFault(MEN + "needs m 1; needs  m 1;", 65, 3);
        CHECK.about("two alike (at the second)");
        CHECK.valleyFault(MEN + "deaf m  m;", 55, 3);
    }

    private static void faultFour() {
        CHECK.about("4 one more than there may be of a sort (at the LINE's first WORD)");
        CHECK.valleyFault(hills(8) + "  hill z 0 0;", hills(8).length() + 2, 4);
        CHECK.valleyFault(men(8) + "  man z h 0 0;", men(8).length() + 2, 4);
        CHECK.valleyFault("flight 1 0;".repeat(4) + "  flight 1 0;", 46, 4);
        CHECK.about("a 41st LINE of a ROLL (at the LINE's first WORD)");
        CHECK.rollFault(MEN, "shares;".repeat(40) + "  shares;", 282, 4);
        CHECK.rollFault(MEN, "shares;".repeat(40) + "m", 280, 4);
        CHECK.about("an 11th CALL (at its HOUR; ahead of 2 there)");
        CHECK.valleyFault(TEN_CALLS + "  99 0 0;", 72, 4);
        CHECK.valleyFault(TEN_CALLS + " 100 0 0;", 71, 4);
        CHECK.valleyFault(TEN_CALLS + " 0 0 0;", 71, 4);
        CHECK.valleyFault(TEN_CALLS + " 10", 71, 4);
        CHECK.about("a 21st ONE, a ninth within (at its first TOKEN)");
        CHECK.sentenceFault(MEN, "old" + " or old".repeat(19) + " or  on h", 141, 4);
        CHECK.sentenceFault(MEN, "old" + " or old".repeat(19) + " or coin = 1000", 140, 4);
        CHECK.sentenceFault(MEN, "(".repeat(8) + " coin < 5", 9, 4);
        CHECK.sentenceFault(MEN, "(".repeat(8) + " not old", 9, 4);
    }
}
