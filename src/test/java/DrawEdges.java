import java.math.BigInteger;

/** Promises 61 to 63, 65, 66 and term VI: tales drawn, and images. */
final class DrawEdges {
    private static final TaleCourt NO_COURT = new TaleCourt();
    private static final int[] SEEDS = {0, 1, 2, 65535, 65536, 1234567, 1999999999, 2000000000};
    private static final int[] NO_SEEDS = {-1, 2000000001, Integer.MIN_VALUE, Integer.MAX_VALUE};
    private static final String TEXT = "court tellers 2 silent 1;motif worth 1 opens;motif worth 2 opens;"
        + "motif worth 4 song;join 0 to 1;join 1 to 0;join 0 to 2;join 1 to 2;forbid 1;listener loves 3 0;";

    private DrawEdges() {
    }

    static void run() {
        draws();
        drawnTale();
        drawn();
        lot();
        nights();
        keep();
        back();
    }

    private static void draws() {
        Edge.of("VI", "DRAWS: x becomes (1103515245 x + 12345) modulo 2,147,483,648 (at first it is the seed); a draw of n:"
            + " x / 65536, cut, modulo n.");
        TaleCourt x = Check.allJoined("court tellers 1 silent 0;", "1", "1", "1", "1", "1", "1", "1", "1", "1");
        for (int seed : SEEDS) {
            BigInteger state = BigInteger.valueOf(seed);
            StringBuilder left = new StringBuilder("012345678");
            for (int i = 0; i < 9; i++) {
                state = state.multiply(BigInteger.valueOf(1103515245)).add(BigInteger.valueOf(12345)).mod(BigInteger.TWO.pow(31));
                int pick = state.divide(BigInteger.valueOf(65536)).mod(BigInteger.valueOf(9 - i)).intValue();
                Check.due("lot(" + seed + ", " + i + ")", x.lot(seed, i), left.charAt(pick) - '0');
                left.deleteCharAt(pick);
            }
        }
    }

    private static void drawnTale() {
        Edge.of("VI", "TALE drawn: of the MOTIFS that may be told, by numbers, the one that a draw of as many tells, till there"
            + " is none.");
        for (int seed = 0; seed < 80; seed++) {
            TaleCourt x = Check.of("court tellers 2 silent 3;motif worth 1 opens owes 4 within 3;motif worth 2 opens;"
                + "motif worth 3;motif worth 4 stranger;motif worth 5;motif worth 6;join 0 to 1;join 1 to 0;join 0 to 2;"
                + "join 1 to 2;join 2 to 3;join 2 to 4;join 1 to 4;join 4 to 5;join 5 to 3;join 1 to 5;join 5 to 4;"
                + "clash 3 and 4;keeps 1 5;");
            if (seed >= 40) {
                x.hush();
            }
            compareWithMay(x, seed);
        }
    }

    private static void compareWithMay(TaleCourt x, int seed) {
        x.keep(0);
        long state = seed;
        int many = 0;
        int[] row = new int[9];
        while (x.may() != 0) {
            state = (1103515245L * state + 12345L) % 2147483648L;
            int place = (int) (state / 65536 % Integer.bitCount(x.may()));
            int motif = 0;
            for (int rest = x.may(); (rest & 1) == 0 || place-- > 0; rest >>= 1) {
                motif++;
            }
            row[many++] = motif;
            x.say(motif);
        }
        int points = x.points();
        int whole = x.whole();
        x.back(0);
        Check.due("drawn(" + seed + ", 0)", x.drawn(seed, 0), many);
        Check.due("drawn(" + seed + ", 1)", x.drawn(seed, 1), points);
        Check.due("drawn(" + seed + ", 2)", x.drawn(seed, 2), whole);
        for (int i = 0; i <= many; i++) {
            Check.due("lot(" + seed + ", " + i + ")", x.lot(seed, i), i < many ? row[i] : -1);
        }
    }

    private static void drawn() {
        // Seed 1: 16838, 5758, 10113 of 2, 2 and 1: motifs 0, 1, 2. Seed 0 behind 1: 0 of 2: motif 0, then 2.
        TaleCourt x = Check.of(TEXT);
        Edge.of("61", "TALE drawn (VI) from a seed (0 .. 2,000,000,000) from now on");
        for (int seed : SEEDS) {
            Check.due("drawn(" + seed + ", 0)", x.drawn(seed, 0) > 0 ? 1 : 0, 1);
        }
        x.say(1);
        Check.due("drawn(0, 0), from now on", x.drawn(0, 0), 2);
        Check.due("length() stays", x.length(), 1);
        Edge.of("61", "what 0: how many MOTIFS more");
        Check.due("drawn(0, 0)", x.drawn(0, 0), 2);
        x.anew();
        Check.due("drawn(1, 0)", x.drawn(1, 0), 3);
        Check.due("drawn(0, 0) of none", Check.of("court tellers 1 silent 0;").drawn(0, 0), 0);
        Edge.of("61", "1: POINTS of all then");
        Check.due("drawn(1, 1)", x.drawn(1, 1), 15);
        x.say(1);
        Check.due("drawn(0, 1), what was told with it", x.drawn(0, 1), 15);
        Check.due("drawn(0, 1) of none", Check.of("court tellers 1 silent 0;").drawn(0, 1), 0);
        Edge.of("61", "2: 1 if it is WHOLE then, else 0");
        Check.due("drawn(0, 2)", x.drawn(0, 2), 1);
        x.forbid(2, 1);
        Check.due("drawn(0, 2), forbidden", x.drawn(0, 2), 0);
        Check.due("drawn(0, 2) of none", Check.of("court tellers 1 silent 0;").drawn(0, 2), 0);
        Edge.of("61", "-2: there are none such, no COURT");
        for (int what = 0; what < 3; what++) {
            for (int seed : NO_SEEDS) {
                Check.due("drawn(" + seed + ", " + what + ")", x.drawn(seed, what), -2);
            }
            Check.due("drawn(0, " + what + ") of no court", NO_COURT.drawn(0, what), -2);
        }
        int[] wrong = {-1, 3, 4, Integer.MIN_VALUE, Integer.MAX_VALUE};
        for (int what : wrong) {
            Check.due("drawn(0, " + what + ")", x.drawn(0, what), -2);
        }
    }

    private static void lot() {
        TaleCourt x = Check.of(TEXT);
        Edge.of("62", "The i-th MOTIF more of it.");
        for (int i = 0; i < 3; i++) {
            Check.due("lot(1, " + i + ")", x.lot(1, i), i);
        }
        x.say(1);
        Check.due("lot(0, 0), more", x.lot(0, 0), 0);
        Check.due("lot(0, 1), more", x.lot(0, 1), 2);
        Edge.of("62", "NONE: there is none such");
        int[] wrong = {2, 3, 8, 9, 17, 18, -1, Integer.MIN_VALUE, Integer.MAX_VALUE};
        for (int i : wrong) {
            Check.due("lot(0, " + i + ")", x.lot(0, i), -1);
        }
        Check.due("lot(0, 0) of none", Check.of("court tellers 1 silent 0;").lot(0, 0), -1);
        Edge.of("62", "-2: there is no such seed, no COURT");
        for (int seed : NO_SEEDS) {
            Check.due("lot(" + seed + ", 0)", x.lot(seed, 0), -2);
            Check.due("lot(" + seed + ", -1)", x.lot(seed, -1), -2);
        }
        Check.due("lot(2000000000, 0)", x.lot(2000000000, 0) >= 0 ? 1 : 0, 1);
        Check.due("lot(0, 0) of no court", NO_COURT.lot(0, 0), -2);
    }

    private static void nights() {
        Edge.of("63", "Of n (1 .. 20) such from seeds, the seed and 1, .., how many are WHOLE.");
        TaleCourt x = Check.of("court tellers 1 silent 0;motif worth 1 opens;motif worth 1 opens;motif worth 1 opens;forbid 0;");
        int[] firsts = {0, 1, 77, 1999999981};
        for (int seed : firsts) {
            int sum = 0;
            for (int n = 1; n <= 20; n++) {
                sum += x.drawn(seed + n - 1, 2);
                Check.due("nights(" + seed + ", " + n + ")", x.nights(seed, n), sum);
            }
        }
        Check.due("nights(2000000000, 1)", x.nights(2000000000, 1), x.drawn(2000000000, 2));
        x.say(1);
        Check.due("nights(5, 20), all whole as it is", x.nights(5, 20), 20);
        Check.due("length() stays", x.length(), 1);
        Edge.of("63", "-2: there are none such, no COURT");
        int[] wrong = {0, 21, -1, Integer.MIN_VALUE, Integer.MAX_VALUE};
        for (int n : wrong) {
            Check.due("nights(0, " + n + ")", x.nights(0, n), -2);
        }
        for (int seed : NO_SEEDS) {
            Check.due("nights(" + seed + ", 1)", x.nights(seed, 1), -2);
        }
        Check.due("nights(0, 1) of no court", NO_COURT.nights(0, 1), -2);
    }

    private static void keep() {
        Edge.of("65", "IMAGE k (0 .. 2) keeps the COURT and the tale: 0.");
        TaleCourt x = Check.of(TEXT);
        for (int k = 0; k < 3; k++) {
            Check.due("keep(" + k + ")", x.keep(k), 0);
            x.say(k);
        }
        Check.due("length() stays", x.length(), 3);
        for (int k = 2; k >= 0; k--) {
            x.back(k);
            Check.due("length()", x.length(), k);
        }
        x.say(1);
        Check.due("keep(2), in place of another", x.keep(2), 0);
        x.anew();
        x.back(2);
        Check.due("told(0)", x.told(0), 1);
        Check.due("length()", x.length(), 1);
        x = new TaleCourt();
        Check.due("keep(0) of no court", x.keep(0), 0);
        Check.court(x, TEXT);
        x.back(0);
        Check.due("length() of no court", x.length(), -2);
        Edge.of("65", "-2: no such k");
        int[] wrong = {-1, 3, 4, Integer.MIN_VALUE, Integer.MAX_VALUE};
        for (int k : wrong) {
            Check.due("keep(" + k + ")", x.keep(k), -2);
        }
    }

    /** A tale is gone back to, another one was told meanwhile, and is taken back turn by turn. */
    private static void takenBackThen() {
        TaleCourt x = Check.of("court tellers 1 silent 2;motif worth 1 opens owes 4 within 9;motif worth 1 owes 4 within 2;"
            + "motif worth 1;motif worth 1 opens;motif worth 1;join 0 to 1;join 1 to 4;join 0 to 2;join 3 to 4;"
            + "clash 0 and 3;clash 1 and 2;");
        x.say(0);
        x.say(1);
        x.say(4);
        x.keep(0);
        x.anew();
        x.hush();
        x.say(0);
        x.hush();
        x.say(1);
        x.anew();
        x.hush();
        x.say(3);
        x.say(4);
        x.back(0);
        Check.due("unsay()", x.unsay(), 2);
        Check.due("due(4)", x.due(4), 3);
        Check.due("why(4)", x.why(4), 0);
        Check.due("why(2), why(3)", 10 * x.why(2) + x.why(3), 22);
        Check.due("unsay()", x.unsay(), 1);
        Check.due("due(4)", x.due(4), 9);
        Check.due("why(2), why(3)", 10 * x.why(2) + x.why(3), 2);
        Check.due("why(1)", x.why(1), 0);
        Check.due("unsay()", x.unsay(), 0);
        Check.due("owed()", x.owed(), 0);
        Check.due("may()", x.may(), 9);
    }

    private static void back() {
        Edge.of("66", "These are as IMAGE k has them: 0.");
        TaleCourt x = Check.of(TEXT);
        x.say(0);
        x.hush();
        x.keep(1);
        x.keeps(2, 1);
        x.forbid(1, 0);
        x.say(1);
        Check.due("court()", Check.court(x, "court tellers 3 silent 0;"), 1);
        x.row(0, 0, 1);
        Check.tape(x, "court");
        x.court();
        Check.due("back(1)", x.back(1), 0);
        int[] counts = {3, 2, 1, 4, 0, 1, 10, 5, 2, 1};
        for (int what = 0; what < counts.length; what++) {
            Check.due("count(" + what + ")", x.count(what), counts[what]);
        }
        Check.due("fault(1), the latest court()'s", x.fault(1), 5);
        Check.due("motif(2, 6)", x.motif(2, 6), -1);
        Check.due("motif(1, 7)", x.motif(1, 7), 1);
        Check.due("told(1)", x.told(1), 9);
        Check.due("left(1)", x.left(1), 0);
        Check.due("points()", x.points(), 1);
        Check.due("may()", x.may(), 6);
        Check.due("wholes()", x.wholes(), 3);
        Check.due("wins()", x.wins() >= 0 ? 1 : 0, 1);
        Check.row(x, 0, 0);
        Check.due("taste(0, 0)", x.taste(0, 0), 4);
        Check.due("unsay()", x.unsay(), 1);
        Check.due("left(1)", x.left(1), 1);
        x.say(2);
        x.keeps(1, 1);
        Check.due("back(1) again, it stays", x.back(1), 0);
        Check.due("told(1)", x.told(1), 9);
        Check.due("motif(1, 6)", x.motif(1, 6), -1);
        takenBackThen();
        Edge.of("66", "-2: no such k");
        int[] wrong = {-1, 3, 4, Integer.MIN_VALUE, Integer.MAX_VALUE};
        for (int k : wrong) {
            Check.due("back(" + k + ")", x.back(k), -2);
        }
        Edge.of("66", "-6: it has nothing");
        Check.due("back(0)", x.back(0), -6);
        Check.due("back(2)", x.back(2), -6);
        Check.due("length() stays", x.length(), 2);
        x.court();
        Check.due("back(1), court() leaves it", x.back(1), 0);
    }
}
