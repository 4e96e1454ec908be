/** Promises 52 to 60, 67 to 69 and term V: rows of numbers, and what is judged by them. */
final class RowEdges {
    private static final TaleCourt NO_COURT = new TaleCourt();
    private static final int[] NO_SLOTS = {-1, 4, 5, Integer.MIN_VALUE, Integer.MAX_VALUE};
    private static final long[] NO_NUMBERS = {-1, 4, 8, 9, 10, 256, 1L << 32, Long.MIN_VALUE, Long.MAX_VALUE};
    private static final String TEXT = "court tellers 2 silent 1;motif worth 1 opens owes 2 within 2;motif worth 2;"
        + "motif worth 3 song;motif worth 4 stranger;join 0 to 1;join 1 to 2;join 0 to 2;join 2 to 3;join 1 to 3;"
        + "listener loves 5 0 1;listener loves 9;listener loves 0 3;";
    private static final String NINE = "court tellers 1 silent 0;" + "motif worth 0;".repeat(9) + "listener loves 0;".repeat(8);

    private RowEdges() {
    }

    static void run() {
        slots();
        judge();
        verdict();
        lies();
        orders();
        fits();
        liars();
        who();
        tastes();
        votes();
        taste();
        row();
        write();
        paste();
    }

    private static int call(String name, TaleCourt x, int slot) {
        switch (name) {
            case "52": return x.judge(slot);
            case "53": return x.verdict(slot);
            case "54": return x.lies(slot);
            case "55": return x.orders(slot);
            case "56": return x.fits(slot);
            case "57": return x.liars(slot);
            default: return x.who(slot);
        }
    }

    private static void noSlot(String name) {
        TaleCourt x = Check.of(TEXT);
        for (int slot : NO_SLOTS) {
            Check.due("no such slot, " + slot, call(name, x, slot), -2);
            Check.due("no such slot, no court, " + slot, call(name, NO_COURT, slot), -2);
        }
    }

    private static void noCourt(String name) {
        TaleCourt none = new TaleCourt();
        Check.due("no court, nothing", call(name, none, 0), -2);
        none.row(0, 0, 0);
        Check.due("no court, a row", call(name, none, 0), -2);
    }

    private static void nothing(String name) {
        TaleCourt x = Check.of(TEXT);
        x.row(1, 0, 6);
        Check.due("nothing", call(name, x, 0), -6);
        Check.due("nothing", call(name, x, 2), -6);
        Check.due("nothing", call(name, x, 3), -6);
        x.row(0, 0, -1);
        x.row(0, 0, 61);
        Check.due("nothing, a row was refused", call(name, x, 0), -6);
        x.row(3, 0, 0);
        Check.due("an empty row is not nothing", call(name, x, 3) >= 0 ? 1 : 0, 1);
    }

    /** A row whose numbers are not pairs of unlike motifs, in each of its places; who says it stands ahead, if three each. */
    private static void noMotifs(String name, int each) {
        TaleCourt x = Check.of(TEXT);
        for (long number : NO_NUMBERS) {
            for (int place = 0; place < 2; place++) {
                for (int pair = 0; pair < 2; pair++) {
                    long[] row = each == 2 ? new long[] {0, 1, 2, 3} : new long[] {0, 0, 1, 0, 2, 3};
                    row[each * pair + each - 2 + place] = number;
                    Check.row(x, 0, row);
                    Check.due("no motif, " + number, call(name, x, 0), -2);
                }
            }
            x = Check.of(TEXT);
        }
    }

    private static void oneTwice(String name, int each) {
        TaleCourt x = Check.of(TEXT);
        for (int m = 0; m < 4; m++) {
            Check.row(x, 0, each == 2 ? new long[] {m, m} : new long[] {0, m, m});
            Check.due("one twice", call(name, x, 0), -2);
            Check.row(x, 0, each == 2 ? new long[] {0, 1, m, m} : new long[] {0, 0, 1, 0, m, m});
            Check.due("one twice, later", call(name, x, 0), -2);
        }
    }

    private static void notEach(String name, int each) {
        for (int n = 0; n <= 60; n++) {
            TaleCourt x = Check.of(TEXT);
            x.row(0, 0, n);
            for (int i = each - 1; i < n; i += each) {
                x.write(0, i, 1);
            }
            Check.due("a row of " + n, call(name, x, 0) >= 0 ? 0 : call(name, x, 0), n % each == 0 ? 0 : -2);
        }
    }

    private static void slots() {
        Edge.of("I", "SLOTS 0 .. 3 have rows of numbers of 1, 2, 4 or 8 bytes (WIDTH 0 .. 3), at most 60, or nothing.");
        for (int slot = 0; slot < 4; slot++) {
            for (int width = 0; width < 4; width++) {
                TaleCourt x = Check.of("court tellers 1 silent 0;motif worth 1;motif worth 3;listener loves 0;");
                Check.due("nothing", x.taste(0, slot), -6000);
                Check.due("row()", x.row(slot, width, 60), 0);
                Check.due("taste()", x.taste(0, slot), 60);
                // One more than what a number of this width can hold is cut to 1.
                long over = width == 3 ? 1 : 1 + (1L << (8 << width));
                Check.due("write()", x.write(slot, 59, over), 0);
                Check.due("taste()", x.taste(0, slot), 62);
                long most = width == 3 ? Long.MAX_VALUE : (1L << (8 << width) - 1) + 1;
                Check.due("write()", x.write(slot, 59, most), 0);
                Check.due("taste(), its highest bit is held", x.taste(0, slot), -1000);
                Check.due("row() of 61", x.row(slot, width, 61), -2);
                Check.due("count(9)", x.count(9), 1);
            }
        }
    }

    private static void judged(TaleCourt x, int turns, int reason, long... numbers) {
        Check.row(x, 0, numbers);
        Check.due("judge()", x.judge(0), turns);
        Check.due("verdict()", x.verdict(0), reason);
    }

    private static void judge() {
        Edge.of("52", "A SLOT's row as a tale from the start (9: silence): how many turns ahead of the first that may not be.");
        TaleCourt x = Check.of(TEXT);
        judged(x, 0, 0);
        judged(x, 1, 0, 0);
        judged(x, 4, 0, 0, 1, 2, 3);
        judged(x, 4, 1, 0, 1, 2, 3, 0, 1, 2);
        judged(x, 0, 3, 1, 0, 1, 2);
        judged(x, 3, 0, 0, 9, 2);
        judged(x, 2, 0, 9, 9);
        judged(x, 4, 0, 9, 0, 1, 2);
        x.say(0);
        x.hush();
        judged(x, 3, 0, 0, 1, 2);
        Check.due("length() stays", x.length(), 2);
        Check.due("left(1) stays", x.left(1), 0);
        x = Check.allJoined("court tellers 3 silent 3;", "1", "1", "1", "1", "1", "1", "1", "1", "1");
        judged(x, 18, 0, 9, 0, 9, 1, 9, 2, 9, 3, 9, 4, 9, 5, 9, 6, 9, 7, 9, 8);
        judged(x, 18, 9, 9, 9, 9, 9, 9, 9, 9, 9, 9, 0, 1, 2, 3, 4, 5, 6, 7, 8, 9);
        x.row(0, 0, 60);
        Check.due("judge() of sixty", x.judge(0), 1);
        Edge.of("52", "-2: there is no such SLOT, no COURT");
        noSlot("52");
        noCourt("52");
        Edge.of("52", "-6: it has nothing");
        nothing("52");
    }

    private static void verdict() {
        TaleCourt x = Check.of(TEXT + "motif worth 0;join 0 to 4;clash 4 and 0;keeps 0 1;");
        Edge.of("53", "REASON of that first one (II");
        judged(x, 1, 1, 0, 0);
        judged(x, 1, 2, 0, 4);
        judged(x, 0, 3, 2);
        judged(x, 1, 3, 0, 3);
        x.keeps(1, -1);
        judged(x, 2, 4, 0, 1, 3);
        judged(x, 2, 5, 0, 9, 1);
        x.keeps(1, 0);
        judged(x, 1, 6, 0, 1);
        Edge.of("53", "9: no MOTIF");
        long[] wrong = {-1, 5, 8, 10, 255, 256, 1L << 32, (1L << 32) + 9, Long.MIN_VALUE, Long.MAX_VALUE};
        for (long number : wrong) {
            judged(x, 0, 9, number);
            judged(x, 1, 9, 0, number, 0);
        }
        judged(Check.of("court tellers 1 silent 0;"), 0, 9, 0);
        Edge.of("53", "silence that may not be, or not any more)");
        judged(x, 2, 9, 0, 9, 9);
        judged(x, 2, 9, 9, 9, 9);
        judged(Check.of("court tellers 1 silent 0;motif worth 1 opens;"), 0, 9, 9);
        judged(Check.of("court tellers 2 silent 3;motif worth 1 opens owes 1 within 2;motif worth 1;"), 2, 9, 0, 9, 9);
        judged(Check.of("court tellers 1 silent 3;motif worth 1 opens;"), 3, 9, 9, 9, 9, 9);
        Edge.of("53", "0: all may be");
        judged(x, 0, 0);
        judged(x, 3, 0, 0, 9, 2);
        Edge.of("53", "-2, -6 likewise");
        noSlot("53");
        noCourt("53");
        nothing("53");
    }

    private static void lied(TaleCourt x, int fewest, int orders, long... numbers) {
        Check.row(x, 0, numbers);
        Check.due("lies()", x.lies(0), fewest);
        Check.due("orders()", x.orders(0), orders);
    }

    /** Thirty pairs, as many as a row has: 0 ahead of 1 so often, 1 ahead of 0 the other times. */
    private static long[] thirty(int often) {
        long[] row = new long[60];
        for (int i = 0; i < 30; i++) {
            row[2 * i + (i < often ? 1 : 0)] = 1;
        }
        return row;
    }

    private static void lies() {
        TaleCourt x = Check.of(TEXT);
        Edge.of("54", "LIES: a SLOT's row, two numbers each: one MOTIF was told ahead of another one: the fewest of these that"
            + " must be untrue, whatever the order.");
        lied(x, 0, 24);
        lied(x, 0, 12, 0, 1);
        lied(x, 1, 24, 0, 1, 1, 0);
        lied(x, 1, 12, 0, 1, 1, 2, 2, 0);
        lied(x, 2, 24, 0, 1, 1, 0, 2, 3, 3, 2);
        lied(x, 1, 12, 1, 0, 0, 1, 1, 0);
        x.say(1);
        lied(x, 0, 1, 3, 2, 2, 1, 1, 0);
        int[] often = {0, 1, 14, 15, 16, 30};
        for (int n : often) {
            Check.row(x, 0, thirty(n));
            Check.due("lies() of thirty", x.lies(0), Math.min(n, 30 - n));
            Check.due("orders() of thirty", x.orders(0), n == 15 ? 24 : 12);
        }
        Edge.of("54", "-2: there is no such SLOT");
        noSlot("54");
        Edge.of("54", "no COURT");
        noCourt("54");
        Edge.of("54", "a number is no MOTIF");
        noMotifs("54", 2);
        Edge.of("54", "one twice (asked last)");
        oneTwice("54", 2);
        Edge.of("54", "not two each");
        notEach("54", 2);
        Edge.of("54", "-6: it has nothing");
        nothing("54");
    }

    private static void orders() {
        Edge.of("55", "How many orders of all MOTIFS have so few untrue.");
        int orders = 1;
        for (int n = 0; n <= 9; n++) {
            orders *= Math.max(1, n);
            lied(Check.of("court tellers 1 silent 0;" + "motif worth 1;".repeat(n)), 0, orders);
        }
        TaleCourt x = Check.of(NINE);
        lied(x, 0, 1, 8, 7, 7, 6, 6, 5, 5, 4, 4, 3, 3, 2, 2, 1, 1, 0);
        lied(x, 0, 181440, 4, 8);
        Check.row(x, 0, 4, 8, 8, 4);
        Check.due("orders(), asked alone", x.orders(0), 362880);
        lied(x, 1, 9, 0, 1, 1, 2, 2, 3, 3, 4, 4, 5, 5, 6, 6, 7, 7, 8, 8, 0);
        Edge.of("55", "-2, -6 likewise");
        noSlot("55");
        noCourt("55");
        nothing("55");
        noMotifs("55", 2);
        oneTwice("55", 2);
        notEach("55", 2);
    }

    private static void fit(TaleCourt x, int many, long... numbers) {
        Check.row(x, 0, numbers);
        Check.due("fits()", x.fits(0), many);
    }

    private static void fits() {
        Edge.of("56", "How many WHOLE tales from now on tell all MOTIFS that are named so");
        // Whole: 02, 012, 023 with 3 by night not, 0123.
        TaleCourt x = Check.of(TEXT);
        Check.due("wholes()", x.wholes(), 3);
        fit(x, 3);
        fit(x, 3, 0, 2);
        fit(x, 2, 0, 1);
        fit(x, 1, 0, 3);
        fit(x, 1, 0, 1, 2, 3);
        x.say(0);
        fit(x, 3, 0, 2);
        x.say(2);
        fit(x, 1, 0, 2);
        fit(x, 0, 0, 1);
        Edge.of("56", "and in these orders.");
        fit(x, 0, 2, 0);
        x.anew();
        fit(x, 0, 2, 0);
        fit(x, 0, 0, 2, 2, 0);
        fit(x, 0, 0, 1, 2, 1);
        fit(x, 2, 0, 1, 1, 2);
        fit(x, 2, 0, 1, 0, 1);
        x.say(0);
        fit(x, 0, 1, 0);
        fit(x, 2, 1, 2);
        x = Check.allJoined("court tellers 1 silent 1;", "1", "1", "1");
        fit(x, 15);
        fit(x, 4, 0, 1);
        fit(x, 1, 0, 1, 1, 2);
        x.say(2);
        x.hush();
        fit(x, 1, 2, 1, 1, 0);
        fit(x, 0, 0, 2);
        fit(x, 0, 1, 2);
        fit(x, 3, 2, 1);
        Edge.of("56", "-2, -6 likewise");
        noSlot("56");
        noCourt("56");
        nothing("56");
        noMotifs("56", 2);
        oneTwice("56", 2);
        notEach("56", 2);
    }

    private static void lying(TaleCourt x, int fewest, int who, long... numbers) {
        Check.row(x, 0, numbers);
        Check.due("liars()", x.liars(0), fewest);
        Check.due("who()", x.who(0), who);
    }

    /** Each of eight says a thing and its contrary. */
    private static long[] allLie() {
        long[] all = new long[48];
        for (int l = 0; l < 8; l++) {
            long[] said = {l, l, l + 1, l, l + 1, l};
            System.arraycopy(said, 0, all, 6 * l, 6);
        }
        return all;
    }

    private static void liars() {
        TaleCourt x = Check.of(TEXT);
        Edge.of("57", "LIARS: a SLOT's row, three numbers each: a LISTENER there is, then as in lies(): the fewest LISTENERS"
            + " without whom no order must be untrue.");
        lying(x, 0, 0);
        lying(x, 0, 0, 0, 0, 1, 1, 1, 2, 2, 2, 3);
        lying(x, 1, 1, 0, 0, 1, 1, 1, 0);
        lying(x, 1, 2, 1, 0, 1, 1, 1, 0);
        lying(x, 1, 1, 0, 0, 1, 1, 1, 2, 2, 2, 0);
        lying(x, 1, 4, 0, 0, 1, 1, 1, 2, 2, 1, 0, 2, 2, 1);
        lying(x, 2, 3, 0, 0, 1, 1, 1, 0, 2, 0, 1, 0, 2, 3, 1, 3, 2, 0, 1, 2, 2, 2, 1);
        lying(Check.of(NINE), 8, 255, allLie());
        Edge.of("57", "-2, -6 likewise");
        noSlot("57");
        noCourt("57");
        nothing("57");
        noMotifs("57", 3);
        oneTwice("57", 3);
        Edge.of("57", "(not three each, a LISTENER is none)");
        notEach("57", 3);
        noListener("57");
    }

    private static void noListener(String name) {
        TaleCourt x = Check.of(TEXT);
        long[] wrong = {3, 7, 8, 9, -1, 256, 1L << 32, Long.MIN_VALUE, Long.MAX_VALUE};
        for (long listener : wrong) {
            Check.row(x, 0, 0, 0, 1, listener, 2, 3);
            Check.due("no listener, " + listener, call(name, x, 0), -2);
            Check.row(x, 0, listener, 0, 1, 0, 2, 3);
            Check.due("no listener, " + listener, call(name, x, 0), -2);
        }
        Check.row(x, 0, 2, 0, 1);
        Check.due("the last listener", call(name, x, 0), 0);
        x = Check.of("court tellers 1 silent 0;motif worth 1;motif worth 1;");
        Check.row(x, 0, 0, 0, 1);
        Check.due("no listeners", call(name, x, 0), -2);
        x.row(0, 0, 0);
        Check.due("no listeners, nothing said", call(name, x, 0), 0);
    }

    private static void who() {
        TaleCourt x = Check.of(TEXT);
        Edge.of("58", "Who, as bits: the least set of so few.");
        lying(x, 0, 0);
        // Any one of three: the first.
        lying(x, 1, 1, 0, 0, 1, 1, 1, 2, 2, 2, 0);
        // None alone will do; 0 and 1 are as few as 0 and 2, or 1 and 2, and the least.
        lying(x, 2, 3, 1, 0, 1, 2, 1, 0, 0, 0, 1, 0, 2, 3, 1, 3, 2);
        // Two of three say the contrary: 2 alone.
        lying(x, 1, 4, 0, 0, 1, 1, 0, 1, 2, 1, 0);
        lying(Check.of(NINE), 8, 255, allLie());
        lying(Check.of(NINE), 1, 64, 6, 0, 1, 7, 1, 0);
        Edge.of("58", "-2, -6 likewise");
        noSlot("58");
        noCourt("58");
        nothing("58");
        noMotifs("58", 3);
        oneTwice("58", 3);
        notEach("58", 3);
        noListener("58");
    }

    private static void tastes() {
        TaleCourt x = Check.of(TEXT);
        Edge.of("V", "What a row is to a LISTENER: the worth of each of its numbers (of a song three times as much)");
        Check.row(x, 0, 0, 1, 2, 3);
        Check.due("taste(1, 0)", x.taste(1, 0), 1 + 2 + 9 + 4);
        Check.row(x, 0, 2, 2, 1);
        Check.due("taste(1, 0), one twice", x.taste(1, 0), 9 + 9 + 2);
        Edge.of("V", "and what he loves it more for");
        Check.due("taste(0, 0)", x.taste(0, 0), 9 + 9 + 2 + 5);
        Check.row(x, 0, 0, 1, 1);
        Check.due("taste(0, 0), each time", x.taste(0, 0), 1 + 2 + 2 + 15);
        Check.due("taste(1, 0), he loves none", x.taste(1, 0), 1 + 2 + 2);
        Check.row(x, 0, 3);
        Check.due("taste(2, 0), 0 more", x.taste(2, 0), 4);
        Edge.of("V", "he gives his voice to the greater.");
        Check.row(x, 0, 0, 1);
        Check.row(x, 1, 2);
        Check.due("votes(0, 1)", x.votes(0, 1), 1);
        Check.due("votes(1, 0)", x.votes(1, 0), 2);
        Check.due("votes(0, 0), none is greater", x.votes(0, 0), 0);
    }

    private static void votes() {
        TaleCourt x = Check.of(TEXT);
        Edge.of("59", "VOTE (V): how many LISTENERS give their voice to a SLOT's row of MOTIFS over another one's.");
        Check.row(x, 0, 0);
        x.row(1, 2, 0);
        Check.due("votes(0, 1) over an empty row", x.votes(0, 1), 3);
        Check.due("votes(1, 0)", x.votes(1, 0), 0);
        Check.row(x, 2, 3, 1);
        Check.due("votes(2, 0)", x.votes(2, 0), 3);
        // 6 and 4 to the first, 1 and 4 to the others.
        Check.row(x, 3, 3);
        Check.due("votes(0, 3)", x.votes(0, 3), 1);
        Check.due("votes(3, 0)", x.votes(3, 0), 2);
        Check.due("votes() of no listeners", votesOfNone(), 0);
        TaleCourt all = Check.of(NINE + "forbid 0;");
        all.row(0, 0, 60);
        all.row(1, 0, 59);
        Check.due("votes(), as much", all.votes(0, 1), 0);
        all = Check.of("court tellers 1 silent 0;motif worth 1;" + "listener loves 0;".repeat(8));
        all.row(0, 0, 60);
        all.row(1, 1, 59);
        Check.due("votes() of eight", all.votes(0, 1), 8);
        Edge.of("59", "-2: there are no such SLOTS");
        for (int slot : NO_SLOTS) {
            Check.due("votes(0, " + slot + ")", x.votes(0, slot), -2);
            Check.due("votes(" + slot + ", 0)", x.votes(slot, 0), -2);
        }
        Edge.of("59", "no COURT");
        Check.due("votes(0, 1), nothing", NO_COURT.votes(0, 1), -2);
        TaleCourt none = new TaleCourt();
        none.row(0, 0, 0);
        Check.due("votes(0, 0)", none.votes(0, 0), -2);
        Check.due("votes(0, 1)", none.votes(0, 1), -2);
        Edge.of("59", "a number is no MOTIF (asked last)");
        for (long number : NO_NUMBERS) {
            Check.row(x, 3, 0, number);
            Check.due("votes(0, 3)", x.votes(0, 3), -2);
            Check.due("votes(3, 0)", x.votes(3, 0), -2);
            Check.due("votes(3, 3)", x.votes(3, 3), -2);
        }
        TaleCourt y = Check.of(TEXT);
        Check.row(y, 0, 9);
        Check.due("votes(0, 1), nothing is asked first", y.votes(0, 1), -6);
        Check.due("votes(1, 0), nothing is asked first", y.votes(1, 0), -6);
        Edge.of("59", "-6: one has nothing");
        Check.row(y, 0, 0);
        Check.due("votes(0, 1)", y.votes(0, 1), -6);
        Check.due("votes(1, 0)", y.votes(1, 0), -6);
        Check.due("votes(1, 2)", y.votes(1, 2), -6);
        Check.due("votes(1, 1)", y.votes(1, 1), -6);
        Check.due("votes(4, 1), no such slot is asked first", y.votes(4, 1), -2);
        Check.due("votes(1, 4), no such slot is asked first", y.votes(1, 4), -2);
    }

    private static int votesOfNone() {
        TaleCourt x = Check.of("court tellers 1 silent 0;motif worth 1;");
        x.row(0, 0, 1);
        x.row(1, 0, 0);
        return x.votes(0, 1);
    }

    private static void taste() {
        TaleCourt x = Check.of(TEXT);
        Edge.of("60", "What a row is to a LISTENER (V).");
        Check.row(x, 0, 0, 2);
        Check.due("taste(0, 0)", x.taste(0, 0), 15);
        Check.due("taste(2, 0)", x.taste(2, 0), 10);
        x.row(1, 0, 0);
        Check.due("taste(0, 1), an empty row", x.taste(0, 1), 0);
        TaleCourt most = Check.of("court tellers 1 silent 0;motif worth 9 song;" + "listener loves 9 0;".repeat(8));
        most.row(3, 1, 60);
        Check.due("taste(7, 3), the most", most.taste(7, 3), 60 * 36);
        Edge.of("60", "-1,000: there are none such");
        int[] wrong = {3, 7, 8, -1, 32, Integer.MIN_VALUE, Integer.MAX_VALUE};
        for (int listener : wrong) {
            Check.due("taste(" + listener + ", 0)", x.taste(listener, 0), -1000);
            Check.due("taste(" + listener + ", 3), nothing", x.taste(listener, 3), -1000);
        }
        for (int slot : NO_SLOTS) {
            Check.due("taste(0, " + slot + ")", x.taste(0, slot), -1000);
        }
        Check.due("taste(0, 0) of no court", NO_COURT.taste(0, 0), -1000);
        for (long number : NO_NUMBERS) {
            Check.row(x, 0, 0, number);
            Check.due("taste() of no motif, " + number, x.taste(0, 0), -1000);
        }
        Edge.of("60", "-6,000: it has nothing");
        Check.due("taste(0, 2)", x.taste(0, 2), -6000);
        Check.due("taste(2, 3)", x.taste(2, 3), -6000);
    }

    private static void row() {
        String text = "court tellers 1 silent 0;motif worth 1;motif worth 9;listener loves 0;";
        Edge.of("67", "A SLOT (0 .. 3) has a row of n numbers of a WIDTH, all 0 (in place of another one): 0.");
        TaleCourt x = Check.of(text);
        for (int slot = 0; slot < 4; slot++) {
            for (int width = 0; width < 4; width++) {
                for (int n = 60; n >= 0; n -= 20) {
                    Check.due("row()", x.row(slot, width, n), 0);
                    Check.due("taste(), all 0", x.taste(0, slot), n);
                    Check.due("write()", x.write(slot, n, 1), -7);
                    Check.due("write()", x.write(slot, n - 1, 1), n > 0 ? 0 : -7);
                }
            }
        }
        x = Check.of(text);
        Check.row(x, 1, 1, 1, 1);
        Check.due("row(), in place of another", x.row(1, 3, 3), 0);
        Check.due("taste(), all 0", x.taste(0, 1), 3);
        Check.row(x, 1, 1, 1, 1);
        Check.due("row(), less", x.row(1, 3, 1), 0);
        Check.due("row(), more again", x.row(1, 3, 3), 0);
        Check.due("taste(), all 0", x.taste(0, 1), 3);
        Edge.of("67", "-2: there is no such SLOT or WIDTH (0 .. 3), or n is above 60");
        for (int wrong : NO_SLOTS) {
            Check.due("row(" + wrong + ", 0, 1)", x.row(wrong, 0, 1), -2);
            Check.due("row(0, " + wrong + ", 1)", x.row(0, wrong, 1), -2);
            Check.due("row(" + wrong + ", 0, -1)", x.row(wrong, 0, -1), -2);
            Check.due("row(0, " + wrong + ", -1)", x.row(0, wrong, -1), -2);
        }
        Check.due("row(1, 3, 61)", x.row(1, 3, 61), -2);
        Check.due("row(1, 3, max)", x.row(1, 3, Integer.MAX_VALUE), -2);
        Check.due("taste(), it stays", x.taste(0, 1), 3);
        Check.due("count(9), none has come", x.count(9), 1);
        Edge.of("67", "-3, and the SLOT stays: n is below 0");
        Check.row(x, 1, 1, 0);
        Check.due("row(1, 0, -1)", x.row(1, 0, -1), -3);
        Check.due("row(1, 0, min)", x.row(1, 0, Integer.MIN_VALUE), -3);
        Check.due("taste(), it stays", x.taste(0, 1), 10);
        Check.due("row(2, 0, -1)", x.row(2, 0, -1), -3);
        Check.due("taste(), nothing stays", x.taste(0, 2), -6000);
        Check.due("count(9)", x.count(9), 1);
    }

    private static void write() {
        TaleCourt x = Check.of("court tellers 1 silent 0;motif worth 1;motif worth 9;listener loves 0;");
        Edge.of("68", "Number i of the SLOT's row is v, cut to its WIDTH: 0.");
        for (int width = 0; width < 4; width++) {
            x.row(2, width, 3);
            Check.due("write()", x.write(2, 0, 1), 0);
            Check.due("write()", x.write(2, 2, 1), 0);
            Check.due("taste()", x.taste(0, 2), 19);
            Check.due("write(), another one", x.write(2, 0, 0), 0);
            Check.due("taste()", x.taste(0, 2), 11);
            for (int bits = 8; bits <= 32; bits *= 2) {
                boolean isCut = bits >= 8 << width;
                x.write(2, 0, (1L << bits) + 1);
                Check.due("taste(), 2 to the " + bits + " and 1", x.taste(0, 2), isCut ? 19 : -1000);
                x.write(2, 0, -1L << bits);
                Check.due("taste(), less 2 to the " + bits, x.taste(0, 2), isCut ? 11 : -1000);
                x.write(2, 0, (1L << bits - 1) + 1);
                Check.due("taste(), 2 to the " + (bits - 1) + " and 1", x.taste(0, 2), bits - 1 >= 8 << width ? 19 : -1000);
            }
            x.write(2, 0, -1);
            Check.due("taste(), -1", x.taste(0, 2), -1000);
            x.write(2, 0, Long.MIN_VALUE);
            Check.due("taste(), the least", x.taste(0, 2), width < 3 ? 11 : -1000);
        }
        Edge.of("68", "-2: there is no such SLOT");
        for (int slot : NO_SLOTS) {
            Check.due("write(" + slot + ", 0, 0)", x.write(slot, 0, 0), -2);
            Check.due("write(" + slot + ", -1, 0)", x.write(slot, -1, 0), -2);
        }
        Edge.of("68", "-6: it has nothing");
        Check.due("write(0, 0, 0)", x.write(0, 0, 0), -6);
        Check.due("write(3, -1, 0)", x.write(3, -1, 0), -6);
        Check.due("count(9) stays", x.count(9), 1);
        Edge.of("68", "-7: there is no such number");
        x.row(2, 0, 3);
        int[] wrong = {3, 59, 60, -1, Integer.MIN_VALUE, Integer.MAX_VALUE};
        for (int i : wrong) {
            Check.due("write(2, " + i + ", 1)", x.write(2, i, 1), -7);
        }
        Check.due("taste(), it stays", x.taste(0, 2), 3);
        x.row(2, 0, 0);
        Check.due("write(2, 0, 1) of an empty row", x.write(2, 0, 1), -7);
    }

    private static void pasted(TaleCourt x, int slot, int... worth) {
        // What each number is worth shows which it is: its place is told by cutting the row there.
        int sum = 0;
        for (int n : worth) {
            sum += n;
        }
        Check.due("taste(0, " + slot + ")", x.taste(0, slot), sum);
    }

    private static TaleCourt three() {
        TaleCourt x = Check.of("court tellers 3 silent 3;motif worth 1 opens;motif worth 2;motif worth 3;motif worth 4;"
            + "join 0 to 1;join 1 to 2;join 2 to 3;listener loves 0;");
        Check.row(x, 0, 0, 1, 2, 3);
        Check.row(x, 1, 3, 3, 3, 3, 3);
        return x;
    }

    private static void paste() {
        Edge.of("69", "So many numbers of a SLOT's row, from one on, are put to another one's (or its own), from one on, as they"
            + " were: 0.");
        TaleCourt x = three();
        Check.due("paste(0, 0, 1, 0, 4), all", x.paste(0, 0, 1, 0, 4), 0);
        Check.due("judge(1), 0 1 2 3 and 3", x.judge(1), 4);
        pasted(x, 1, 1, 2, 3, 4, 4);
        x = three();
        Check.due("paste(0, 0, 1, 1, 4), to the end", x.paste(0, 0, 1, 1, 4), 0);
        x.write(1, 0, 9);
        Check.due("judge(1), silence and 0 1 2 3", x.judge(1), 5);
        x = three();
        Check.due("paste(0, 3, 1, 4, 1), the last", x.paste(0, 3, 1, 4, 1), 0);
        Check.due("paste(0, 0, 1, 0, 1), the first", x.paste(0, 0, 1, 0, 1), 0);
        pasted(x, 1, 1, 4, 4, 4, 4);
        Check.due("paste(0, 4, 1, 5, 0), none", x.paste(0, 4, 1, 5, 0), 0);
        Check.due("paste(0, 0, 0, 0, 4), on itself", x.paste(0, 0, 0, 0, 4), 0);
        Check.due("judge(0)", x.judge(0), 4);
        Check.due("paste(0, 0, 0, 1, 3), its own, behind", x.paste(0, 0, 0, 1, 3), 0);
        x.write(0, 0, 9);
        Check.due("judge(0), silence and 0 1 2", x.judge(0), 4);
        Check.due("paste(0, 1, 0, 0, 3), its own, ahead", x.paste(0, 1, 0, 0, 3), 0);
        Check.due("judge(0), 0 1 2 and 2", x.judge(0), 3);
        Edge.of("69", "-2: there is no such SLOT");
        for (int slot : NO_SLOTS) {
            Check.due("paste(" + slot + ", ..)", x.paste(slot, 0, 0, 0, 0), -2);
            Check.due("paste(.., " + slot + ", ..)", x.paste(0, 0, slot, 0, 0), -2);
            Check.due("paste() of nothing to none such", x.paste(3, 0, slot, 0, 0), -2);
            Check.due("paste() of none such to nothing", x.paste(slot, 0, 3, 0, 0), -2);
        }
        Edge.of("69", "-6: one has nothing");
        Check.due("paste(0, 0, 3, 0, 0)", x.paste(0, 0, 3, 0, 0), -6);
        Check.due("paste(3, 0, 0, 0, 0)", x.paste(3, 0, 0, 0, 0), -6);
        Check.due("paste(3, 0, 3, 0, 0)", x.paste(3, 0, 3, 0, 0), -6);
        Check.due("paste(3, -1, 0, -1, -1)", x.paste(3, -1, 0, -1, -1), -6);
        x.row(2, 3, 0);
        Check.due("paste(0, 0, 2, 0, 0), an empty row is not nothing", x.paste(0, 0, 2, 0, 0), 0);
        Check.due("paste(2, 0, 0, 0, 0), an empty row is not nothing", x.paste(2, 0, 0, 0, 0), 0);
        Check.due("paste(2, 0, 2, 0, 1), an empty row is not nothing", x.paste(2, 0, 2, 0, 1), -7);
        Edge.of("69", "-8: they are not of one WIDTH");
        for (int width = 0; width < 3; width++) {
            x.row(2, width, 4);
            Check.due("paste(0, 0, 2, 0, 1)", x.paste(0, 0, 2, 0, 1), -8);
            Check.due("paste(2, 0, 0, 0, 1)", x.paste(2, 0, 0, 0, 1), -8);
            Check.due("paste() of none", x.paste(2, 0, 0, 0, 0), -8);
            Check.due("paste() beyond, asked later", x.paste(2, -1, 0, 0, 99), -8);
        }
        pasted(x, 2, 1, 1, 1, 1);
        Edge.of("69", "-7, and nothing happens: some are beyond their rows, or a place or n is below 0");
        x = three();
        int[][] wrong = {{0, 0, 5}, {1, 0, 4}, {4, 0, 1}, {0, 2, 4}, {0, 5, 1}, {-1, 0, 1}, {0, -1, 1}, {0, 0, -1}, {-1, 0, 0},
            {0, -1, 0}, {2, 2, -2}, {Integer.MAX_VALUE, 0, 1}, {0, Integer.MAX_VALUE, 1}, {1, 1, Integer.MAX_VALUE},
            {Integer.MAX_VALUE, Integer.MAX_VALUE, Integer.MAX_VALUE}, {Integer.MIN_VALUE, 0, 1}, {0, Integer.MIN_VALUE, 1},
            {0, 0, Integer.MIN_VALUE}};
        for (int[] w : wrong) {
            Check.due("paste(0, " + w[0] + ", 1, " + w[1] + ", " + w[2] + ")", x.paste(0, w[0], 1, w[1], w[2]), -7);
            pasted(x, 1, 4, 4, 4, 4, 4);
        }
        Check.due("paste(1, 0, 0, 0, 5)", x.paste(1, 0, 0, 0, 5), -7);
        Check.due("judge(0) stays", x.judge(0), 4);
        x.row(3, 3, 60);
        Check.due("paste(3, 0, 3, 1, 60)", x.paste(3, 0, 3, 1, 60), -7);
        Check.due("paste(3, 1, 3, 0, 60)", x.paste(3, 1, 3, 0, 60), -7);
        Check.due("paste(3, 0, 3, 0, 60)", x.paste(3, 0, 3, 0, 60), 0);
    }
}
