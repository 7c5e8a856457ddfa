/** Promises 1 to 5 and 44, and all FAULTS of a VALLEY: the tape, TOKENS, LINES, limits. */
public final class TextTest {
    private static final Check CHECK = new Check();

    public static void main(String[] args) {
        newObject();
        tape();
        goodValleys();
        faultsOfTokens();
        faultsOfNumbers();
        faultsOfNames();
        faultsOfMany();
        tooLong();
        stays();
        CHECK.end();
    }

    private static void fault(String text, int place, int kind) {
        CuckooShares x = new CuckooShares();
        CHECK.due("valley() of " + text, Check.valley(x, text), -1 - place);
        CHECK.due("fault() of " + text, x.fault(), kind);
        CHECK.due("count(5) behind " + text, x.count(5), 0);
    }

    private static void lines(String text, int lines) {
        CuckooShares x = new CuckooShares();
        CHECK.due("valley() of " + text, Check.valley(x, text), lines);
        CHECK.due("fault() of " + text, x.fault(), 0);
    }

    private static String blanks(int n) {
        return " ".repeat(n);
    }

    private static void newObject() {
        CuckooShares x = new CuckooShares();
        int[] counts = {0, 0, 0, 0, 99, 0};
        for (int what = 0; what < counts.length; what++) {
            CHECK.due("count(" + what + ") of a new object", x.count(what), counts[what]);
        }
        CHECK.due("count(6)", x.count(6), -1);
        CHECK.due("count(-1)", x.count(-1), -1);
        int[] nows = {0, -1, 0, 0, 0, 0, 0};
        for (int what = 0; what < nows.length; what++) {
            CHECK.due("now(" + what + ") of a new object", x.now(what), nows[what]);
        }
        CHECK.due("fault() of a new object", x.fault(), 0);
        CHECK.due("said(-1) of a new object", x.said(-1), -1);
        CHECK.due("rolled(0) of a new object", x.rolled(0), -1);
        CHECK.due("undo() of a new object", x.undo(), -1);
        CHECK.due("restore(1) of a new object", x.restore(1), false);
        CHECK.due("valley() of an empty tape", x.valley(), 0);
        CHECK.due("sentence() of an empty tape", x.sentence(), -1);
        CHECK.due("its fault()", x.fault(), 1);
    }

    private static void tape() {
        CuckooShares x = new CuckooShares();
        for (int i = 1; i <= 47; i++) {
            CHECK.due("feed " + i, x.feed(1, 2, 3, 4, 5), 20 * i);
        }
        CHECK.due("a 48th feed", x.feed(1, 2, 3, 4, 5), -1);
        CHECK.due("count(5) then", x.count(5), 940);
        CHECK.due("end(941)", x.end(941), false);
        CHECK.due("end(-1)", x.end(-1), false);
        CHECK.due("count(5) then", x.count(5), 940);
        CHECK.due("end(921)", x.end(921), true);
        CHECK.due("feed behind 921", x.feed(1, 2, 3, 4, 5), -1);
        CHECK.due("count(5) behind it", x.count(5), 921);
        CHECK.due("end(920)", x.end(920), true);
        CHECK.due("feed behind 920", x.feed(1, 2, 3, 4, 5), 940);
        CHECK.due("end(0)", x.end(0), true);
        CHECK.due("end(1) of an empty tape", x.end(1), false);
        CHECK.due("end(0) of an empty tape", x.end(0), true);
        // "ridge 7;wheat 5;" by bytes, highest first, and a number below 0 behind it
        CHECK.due("feed", x.feed(0x72696467, 0x6520373b, 0x77686561, 0x7420353b, 0x80ffffff), 20);
        x.end(17);
        CHECK.due("the byte 128", x.valley(), -17);
        x.feed(0x72696467, 0x6520373b, 0x77686561, 0x7420353b, 0x80ffffff);
        x.end(16);
        CHECK.due("without it", x.valley(), 2);
        CHECK.due("its wheat", x.count(4), 5);
    }

    private static void goodValleys() {
        lines("", 0);
        lines(" \n ", 0);
        lines("ridge 20;", 1);
        lines("ridge\n0 ; wheat 007;wind west 9;", 3);
        lines("wheat 0;", 1);
        lines("wheat 999;", 1);
        lines("hill abcdefg 20 20;fall abcdefg 9;man m abcdefg 9 9;old m;needs m 999;", 5);
        lines("hill h 0 0;man m h 0 0;man n h 0 0;deaf m n;deaf n m;needs m 0;old n;fall h 0;", 8);
        lines("flight 9 20;flight 1 0 0 0 0;flight 1 0 0 20 20 99 20 20;", 3);
        lines("flight 1 1 0 0 0 1 0 0 2 0 0 3 0 0 4 0 0 5 0 0 6 0 0 7 0 0 8 0 0 9 0 0;", 1);
        lines("hill ridges 1 1;hill hills 1 1;hill o 1 1;", 3);
        lines("hill a 1 1;hill aa 1 1;hill aaaaaaa 1 1;hill b 1 1;hill bb 1 1;hill z 1 1;hill zz 1 1;hill zzzzzzz 1 1;", 8);
        CuckooShares x = Check.valleyOf("wheat 007;");
        CHECK.due("wheat 007", x.count(4), 7);
    }

    private static void faultsOfTokens() {
        fault("ridge", 5, 1);
        fault("ridge 1", 7, 1);
        fault("ridge 1 \n", 9, 1);
        fault("ridge;", 5, 1);
        fault("ridge x;", 6, 1);
        fault("ridge20;", 0, 1);
        fault("ridge 1;;", 8, 1);
        fault(";", 0, 1);
        fault("7;", 0, 1);
        fault("valley 1;", 0, 1);
        fault("comes 1;", 0, 1);
        fault("Ridge 1;", 0, 1);
        fault("ridge 1.", 7, 1);
        fault("ridge 1,", 7, 1);
        fault("ridge\t1;", 5, 1);
        fault("ridge 1<", 7, 1);
        fault("ridge 1 2;", 8, 1);
        fault("ridge 0001;", 6, 1);
        fault("wheat 1000;", 6, 1);
        fault("wheat 9a;", 6, 1);
        fault("wind 3;", 5, 1);
        fault("wind up 3;", 5, 1);
        fault("wind east;", 9, 1);
        fault("hill abcdefgh 1 1;", 5, 1);
        fault("hill a1 1 1;", 5, 1);
        fault("hill 1 1 1;", 5, 1);
        fault("hill h 1;", 8, 1);
        for (String word : Check.RESERVED) {
            fault("hill " + word + " 1 1;", 5, 1);
            fault("fall " + word + " 1;", 5, 1);
            fault("hill h 1 1;man " + word + " h 1 1;", 15, 1);
        }
        fault("flight 1 1 5;", 12, 1);
        fault("flight 1 1 5 5;", 14, 1);
        fault("flight 1 1 5 5 5 x;", 17, 1);
        fault("flight 1;", 8, 1);
    }

    private static void faultsOfNumbers() {
        String ahead = "hill h 1 1;man m h 1 1;";
        fault("ridge 21;", 6, 2);
        fault("wind east 10;", 10, 2);
        fault("hill h 21 0;", 7, 2);
        fault("hill h 0 21;", 9, 2);
        fault("hill h 1 1;fall h 10;", 18, 2);
        fault("hill h 1 1;man m h 10 0;", 19, 2);
        fault("hill h 1 1;man m h 0 10;", 21, 2);
        fault("flight 0 1;", 7, 2);
        fault("flight 10 1;", 7, 2);
        fault("flight 1 21;", 9, 2);
        fault("flight 1 1 100 0 0;", 11, 2);
        fault("flight 1 1 5 21 0;", 13, 2);
        fault("flight 1 1 5 0 21;", 15, 2);
        fault("flight 1 1 5 0 0 5 0 0;", 17, 2);
        fault("flight 1 1 5 0 0 4 0 0;", 17, 2);
        fault("flight 1 1 99 0 0 99 0 0;", 18, 2);
        lines(ahead + "flight 1 1 5 0 0 6 0 0;flight 1 1 0 0 0;", 4);
    }

    private static void faultsOfNames() {
        String ahead = "hill h 1 1;man m h 1 1;man n h 1 1;";
        fault("ridge 1;ridge 2;", 8, 3);
        fault("ridge 1;ridge", 8, 3);
        fault("wheat 1;wheat 2;", 8, 3);
        fault("ridge 1;wheat 1;wind east 1;ridge 1;", 28, 3);
        fault("ridge 1;wheat 1;wind east 1;wheat 1;", 28, 3);
        fault("wind east 1;wind east 1;", 12, 3);
        fault("hill h 1 1;hill h 1 1;", 16, 3);
        fault("hill h 1 1;man h h 1 1;", 15, 3);
        fault(ahead + "hill m 1 1;", 40, 3);
        fault(ahead + "man m h 1 1;", 39, 3);
        fault(ahead + "man o m 1 1;", 41, 3);
        fault("man m h 1 1;hill h 1 1;", 6, 3);
        fault("hill h 1 1;man m m 1 1;", 17, 3);
        fault(ahead + "fall m 1;", 40, 3);
        fault(ahead + "fall x 1;", 40, 3);
        fault(ahead + "fall h 1;fall h 1;", 49, 3);
        fault(ahead + "fall h 0;fall h 1;", 49, 3);
        fault("hill a 1 1;hill b 1 1;fall a 1;fall b 1;fall a 1;", 45, 3);
        fault(ahead + "old h;", 39, 3);
        fault(ahead + "old x;", 39, 3);
        fault(ahead + "old m;old m;", 45, 3);
        fault(ahead + "deaf m m;", 42, 3);
        fault(ahead + "deaf m h;", 42, 3);
        fault(ahead + "deaf h m;", 40, 3);
        fault(ahead + "deaf m n;deaf m n;", 49, 3);
        fault(ahead + "needs h 1;", 41, 3);
        fault(ahead + "needs m 1;needs m 1;", 51, 3);
        fault(ahead + "needs m 0;needs m 1;", 51, 3);
    }

    private static void faultsOfMany() {
        StringBuilder hills = new StringBuilder();
        StringBuilder men = new StringBuilder("hill h 1 1;");
        StringBuilder flights = new StringBuilder();
        for (int i = 0; i < 8; i++) {
            hills.append("hill ").append((char) ('a' + i)).append(" 1 1;");
            men.append("man ").append((char) ('m' + i)).append(" h 1 1;");
        }
        for (int i = 0; i < 4; i++) {
            flights.append("flight 1 1;");
        }
        lines(hills.toString(), 8);
        lines(men.toString(), 9);
        lines(flights.toString(), 4);
        fault(hills + "hill", 88, 4);
        fault(hills + "hill a 1 1;", 88, 4);
        fault(men + "man z h 1 1;", 107, 4);
        fault(flights + "flight 1 1;", 44, 4);
        String ten = "flight 1 1 0 0 0 1 0 0 2 0 0 3 0 0 4 0 0 5 0 0 6 0 0 7 0 0 8 0 0 9 0 0";
        fault(ten + " 10 0 0;", 71, 4);
        fault(ten + " 9 0 0;", 71, 4);
        fault(ten + " 100 0 0;", 71, 4);
        fault(ten + " 1000 0 0;", 71, 1);
        fault(ten + " x;", 71, 1);
    }

    private static void tooLong() {
        lines(blanks(900), 0);
        fault(blanks(901), 900, 1);
        lines(blanks(892) + "ridge 1;", 1);
        fault(blanks(892) + "ridge 1; ", 900, 1);
        fault(blanks(893) + "ridge 1;", 900, 1);
        fault(blanks(893) + "ridge 1;;;;;", 900, 1);
        fault(blanks(899) + "ridge 1;", 900, 1);
        fault(blanks(899) + "ridges 1;", 899, 1);
        fault(blanks(899) + "ridgeridge", 899, 1);
        fault(blanks(893) + "ridge 21;", 899, 2);
        fault(blanks(894) + "ridge 21;", 900, 1);
        fault(blanks(890) + "ridge x;" + blanks(20), 896, 1);
        fault(blanks(930) + "hill", 900, 1);
    }

    private static void stays() {
        CuckooShares x = Check.valleyOf("wheat 5;hill h 3 4;");
        CHECK.due("a bad one", Check.valley(x, "wheat 7;hill k 21 1;"), -16);
        CHECK.due("fault()", x.fault(), 2);
        CHECK.due("wheat stays", x.count(4), 5);
        CHECK.due("the hill stays", x.hill(0, 1), 4);
        CHECK.due("a good one", Check.valley(x, "hill k 2 1;hill h 1 1;"), 2);
        CHECK.due("fault()", x.fault(), 0);
        CHECK.due("wheat is new", x.count(4), 99);
        CHECK.due("hills are new", x.count(0), 2);
    }
}
