/** Promises 6 to 12, 45, 46 and 64: what a court is, and what is changed in it. */
final class CourtEdges {
    private static final int[] NO_MOTIFS = {-1, -2, 9, 10, 32, 64, Integer.MIN_VALUE, Integer.MAX_VALUE};
    private static final String TEXT = "court tellers 3 silent 2;"
        + "motif worth 0 opens;"
        + "motif worth 9 song owes 8 within 9;"
        + "motif worth 4 stranger;"
        + "motif worth 5 owes 0 within 1;"
        + "join 0 to 1;join 1 to 2;join 2 to 0;join 2 to 3;clash 3 and 1;keeps 0 1;keeps 2 3;forbid 2;";
    /** Nine motifs in a line from 8 down to 0. */
    private static final String LINE = "court tellers 1 silent 0;" + "motif worth 1;".repeat(9)
        + "join 8 to 7;join 7 to 6;join 6 to 5;join 5 to 4;join 4 to 3;join 3 to 2;join 2 to 1;join 1 to 0;";

    private CourtEdges() {
    }

    static void run() {
        motif();
        noSuchMotif();
        joins();
        clash();
        neighbours();
        comes();
        chain();
        keeps();
        forbid();
        count();
    }

    /** What is asked of motifs 0 to 3 of the text. */
    private static void motifs(String words, int what, int... due) {
        Edge.of("6", words);
        TaleCourt x = Check.of(TEXT);
        for (int m = 0; m < due.length; m++) {
            Check.due("motif(" + m + ", " + what + ")", x.motif(m, what), due[m]);
        }
    }

    private static void motif() {
        motifs("Of a MOTIF, what 0: worth", 0, 0, 9, 4, 5);
        motifs("1: 1 if it opens", 1, 1, 0, 0, 0);
        motifs("2: 1 if it is a stranger", 2, 0, 0, 1, 0);
        motifs("3: 1 if it is a song", 3, 0, 1, 0, 0);
        motifs("4: what it owes (NONE)", 4, -1, 8, -1, 0);
        motifs("5: within how many turns (0 without)", 5, 0, 9, 0, 1);
        motifs("6: who keeps it (NONE: nobody)", 6, -1, 0, -1, 2);
        motifs("7: 1 if no tale may end with it, else 0", 7, 0, 0, 1, 0);
    }

    private static void noSuchMotif() {
        Edge.of("6", "-2: there are none such");
        TaleCourt x = Check.of(TEXT);
        int[] wrong = {-1, 8, 9, 32, Integer.MIN_VALUE, Integer.MAX_VALUE};
        for (int what : wrong) {
            Check.due("motif(0, " + what + ")", x.motif(0, what), -2);
        }
        Check.due("motif(4, 0)", x.motif(4, 0), -2);
        TaleCourt none = new TaleCourt();
        for (int what = 0; what < 8; what++) {
            for (int m : NO_MOTIFS) {
                Check.due("motif(" + m + ", " + what + ")", x.motif(m, what), -2);
            }
            Check.due("motif(0, " + what + ") of no court", none.motif(0, what), -2);
        }
        Check.due("motif(8, 0)", Check.of(LINE).motif(8, 0), 1);
    }

    private static void joins() {
        Edge.of("7", "Whether a MOTIF joins on to one ahead of it: 1, 0.");
        TaleCourt x = Check.of(TEXT);
        int[] behind = {2, 4, 9, 0};
        for (int a = 0; a < 4; a++) {
            for (int b = 0; b < 4; b++) {
                Check.due("joins(" + a + ", " + b + ")", x.joins(a, b), behind[a] >> b & 1);
            }
        }
        Edge.of("7", "-2: there are none such");
        for (int m : NO_MOTIFS) {
            Check.due("joins(0, " + m + ")", x.joins(0, m), -2);
            Check.due("joins(" + m + ", 0)", x.joins(m, 0), -2);
            Check.due("joins() of the same", x.joins(m, m), -2);
        }
        Check.due("joins(0, 4)", x.joins(0, 4), -2);
        Check.due("joins(4, 0)", x.joins(4, 0), -2);
        Check.due("joins(0, 0) of no court", new TaleCourt().joins(0, 0), -2);
    }

    private static void clash() {
        Edge.of("8", "Whether two MOTIFS clash: 1, 0.");
        TaleCourt x = Check.of(TEXT);
        for (int a = 0; a < 4; a++) {
            for (int b = 0; b < 4; b++) {
                Check.due("clash(" + a + ", " + b + ")", x.clash(a, b), a * b == 3 ? 1 : 0);
            }
        }
        Edge.of("8", "-2: there are none such");
        for (int m : NO_MOTIFS) {
            Check.due("clash(0, " + m + ")", x.clash(0, m), -2);
            Check.due("clash(" + m + ", 0)", x.clash(m, 0), -2);
        }
        Check.due("clash(0, 4)", x.clash(0, 4), -2);
        Check.due("clash(4, 0)", x.clash(4, 0), -2);
        Check.due("clash(0, 0) of no court", new TaleCourt().clash(0, 0), -2);
    }

    private static void neighbours() {
        TaleCourt x = Check.of(TEXT);
        TaleCourt all = Check.allJoined("court tellers 1 silent 0;", "1", "1", "1", "1", "1", "1", "1", "1", "1");
        TaleCourt none = new TaleCourt();
        Edge.of("9", "MOTIFS that join on to one, as bits.");
        int[] behind = {2, 4, 9, 0};
        for (int m = 0; m < 4; m++) {
            Check.due("behind(" + m + ")", x.behind(m), behind[m]);
        }
        for (int m = 0; m < 9; m++) {
            Check.due("behind(" + m + ") of all", all.behind(m), 511 - (1 << m));
        }
        Edge.of("9", "-2: there is none such");
        Check.due("behind(4)", x.behind(4), -2);
        Check.due("behind(0) of no court", none.behind(0), -2);
        for (int m : NO_MOTIFS) {
            Check.due("behind(" + m + ")", x.behind(m), -2);
            Check.due("behind(" + m + ")", all.behind(m), -2);
        }
        Edge.of("10", "MOTIFS on to which one joins, as bits.");
        int[] ahead = {4, 1, 2, 4};
        for (int m = 0; m < 4; m++) {
            Check.due("ahead(" + m + ")", x.ahead(m), ahead[m]);
        }
        Check.due("ahead(8) of none", Check.of(LINE).ahead(8), 0);
        for (int m = 0; m < 9; m++) {
            Check.due("ahead(" + m + ") of all", all.ahead(m), 511 - (1 << m));
        }
        Edge.of("10", "-2 likewise");
        Check.due("ahead(4)", x.ahead(4), -2);
        Check.due("ahead(0) of no court", none.ahead(0), -2);
        for (int m : NO_MOTIFS) {
            Check.due("ahead(" + m + ")", x.ahead(m), -2);
        }
    }

    private static void comes() {
        Edge.of("11", "MOTIFS to which one comes by joins, one behind the other (itself, if round), as bits");
        TaleCourt x = Check.of(TEXT);
        for (int m = 0; m < 3; m++) {
            Check.due("comes(" + m + "), round", x.comes(m), 15);
        }
        Check.due("comes(3)", x.comes(3), 0);
        TaleCourt line = Check.of(LINE);
        for (int m = 0; m < 9; m++) {
            Check.due("comes(" + m + ")", line.comes(m), (1 << m) - 1);
        }
        TaleCourt up = Check.of("court tellers 1 silent 0;" + "motif worth 1;".repeat(4) + "join 0 to 1;join 1 to 2;join 2 to 3;"
            + "join 3 to 2;");
        Check.due("comes(0), itself not", up.comes(0), 14);
        Check.due("comes(3), itself by 2", up.comes(3), 12);
        Edge.of("11", "all else aside");
        TaleCourt hard = Check.of("court tellers 2 silent 0;motif worth 1;motif worth 1 stranger owes 8 within 1;"
            + "motif worth 1 stranger;join 0 to 1;join 1 to 2;clash 0 and 1;clash 1 and 2;clash 0 and 2;keeps 0 1;keeps 0 2;"
            + "forbid 2;");
        Check.due("comes(0)", hard.comes(0), 6);
        x.say(0);
        Check.due("comes(1), what was told", x.comes(1), 15);
        Edge.of("11", "-2 likewise");
        Check.due("comes(4)", x.comes(4), -2);
        Check.due("comes(0) of no court", new TaleCourt().comes(0), -2);
        for (int m : NO_MOTIFS) {
            Check.due("comes(" + m + ")", x.comes(m), -2);
        }
    }

    private static void chain() {
        TaleCourt line = Check.of(LINE);
        TaleCourt x = Check.of(TEXT);
        Edge.of("12", "The fewest MOTIFS of a chain of joins from one to another one (both with it; 1: itself)");
        for (int m = 0; m < 9; m++) {
            Check.due("chain(8, " + m + ")", line.chain(8, m), 9 - m);
            Check.due("chain() to itself", line.chain(m, m), 1);
        }
        Check.due("chain(0, 0), round", x.chain(0, 0), 1);
        Check.due("chain(0, 3)", x.chain(0, 3), 4);
        TaleCourt two = Check.of("court tellers 1 silent 0;" + "motif worth 1;".repeat(4)
            + "join 0 to 1;join 1 to 2;join 2 to 3;join 0 to 3;join 1 to 3;");
        Check.due("chain(0, 3), the fewest", two.chain(0, 3), 2);
        Check.due("chain(0, 2)", two.chain(0, 2), 3);
        Edge.of("12", "NONE: there is none");
        for (int m = 1; m < 9; m++) {
            Check.due("chain(0, " + m + ")", line.chain(0, m), -1);
        }
        Check.due("chain(3, 0)", x.chain(3, 0), -1);
        Edge.of("12", "-2: there are none such");
        for (int m : NO_MOTIFS) {
            Check.due("chain(0, " + m + ")", x.chain(0, m), -2);
            Check.due("chain(" + m + ", 0)", x.chain(m, 0), -2);
            Check.due("chain() of the same", x.chain(m, m), -2);
        }
        Check.due("chain(3, 4)", x.chain(3, 4), -2);
        Check.due("chain(4, 3)", x.chain(4, 3), -2);
        Check.due("chain(0, 0) of no court", new TaleCourt().chain(0, 0), -2);
    }

    private static void keeps() {
        Edge.of("45", "A MOTIF is kept by a TELLER (NONE: nobody) from now on: who kept it.");
        TaleCourt x = Check.of("court tellers 3 silent 3;motif worth 2 opens;motif worth 3;join 0 to 1;keeps 2 1;");
        Check.due("keeps(1, 0)", x.keeps(1, 0), 2);
        Check.due("keeps(1, 2)", x.keeps(1, 2), 0);
        Check.due("keeps(1, -1)", x.keeps(1, -1), 2);
        Check.due("keeps(1, -1)", x.keeps(1, -1), -1);
        Check.due("keeps(1, 1)", x.keeps(1, 1), -1);
        Check.due("motif(1, 6)", x.motif(1, 6), 1);
        for (int turn = 0; turn < 3; turn++) {
            for (int keeper = -1; keeper < 3; keeper++) {
                x.keeps(0, keeper);
                Check.due("why(0), kept by " + keeper, x.why(0), keeper < 0 || keeper == turn ? 0 : 6);
                Check.due("may()", x.may(), keeper < 0 || keeper == turn ? 1 : 0);
                Check.due("longest()", x.longest() > 0 ? 1 : 0, keeper < 0 || keeper == turn ? 1 : 0);
            }
            x.hush();
        }
        x.keeps(0, 0);
        x.say(0);
        Check.due("keeps(0, 1) of one told", x.keeps(0, 1), 0);
        Check.due("length() stays", x.length(), 4);
        Check.due("points() stay", x.points(), 2);
        Edge.of("45", "-2: there are none such");
        for (int m : NO_MOTIFS) {
            Check.due("keeps(" + m + ", 0)", x.keeps(m, 0), -2);
            Check.due("keeps(" + m + ", -1)", x.keeps(m, -1), -2);
        }
        int[] wrong = {3, 4, -2, Integer.MIN_VALUE, Integer.MAX_VALUE};
        for (int teller : wrong) {
            Check.due("keeps(1, " + teller + ")", x.keeps(1, teller), -2);
        }
        Check.due("keeps(2, 0)", x.keeps(2, 0), -2);
        Check.due("motif(1, 6) stays", x.motif(1, 6), 1);
        TaleCourt one = Check.of("court tellers 1 silent 0;motif worth 1;");
        Check.due("keeps(0, 1) of one teller", one.keeps(0, 1), -2);
        Check.due("keeps(0, 0) of one teller", one.keeps(0, 0), -1);
        Check.due("keeps(0, 0) of no court", new TaleCourt().keeps(0, 0), -2);
        Check.due("keeps(0, -1) of no court", new TaleCourt().keeps(0, -1), -2);
    }

    private static void forbid() {
        Edge.of("46", "No tale may end with a MOTIF (1) or may (0) from now on: what it was.");
        TaleCourt x = Check.of("court tellers 1 silent 0;motif worth 1 opens;motif worth 1;join 0 to 1;forbid 1;");
        Check.due("forbid(1, 1)", x.forbid(1, 1), 1);
        Check.due("forbid(1, 0)", x.forbid(1, 0), 1);
        Check.due("forbid(1, 0)", x.forbid(1, 0), 0);
        Check.due("forbid(0, 0)", x.forbid(0, 0), 0);
        Check.due("wholes()", x.wholes(), 2);
        Check.due("forbid(0, 1)", x.forbid(0, 1), 0);
        Check.due("motif(0, 7)", x.motif(0, 7), 1);
        Check.due("motif(1, 7)", x.motif(1, 7), 0);
        Check.due("wholes()", x.wholes(), 1);
        x.say(0);
        Check.due("whole()", x.whole(), 0);
        Check.due("forbid(0, 0)", x.forbid(0, 0), 1);
        Check.due("whole()", x.whole(), 1);
        Edge.of("46", "-2: there are none such");
        x.forbid(0, 1);
        int[] wrong = {2, 3, -1, Integer.MIN_VALUE, Integer.MAX_VALUE};
        for (int is : wrong) {
            Check.due("forbid(0, " + is + ")", x.forbid(0, is), -2);
            Check.due("motif(0, 7) stays", x.motif(0, 7), 1);
            Check.due("motif(1, 7) stays", x.motif(1, 7), 0);
        }
        for (int m : NO_MOTIFS) {
            Check.due("forbid(" + m + ", 1)", x.forbid(m, 1), -2);
            Check.due("forbid(" + m + ", 0)", x.forbid(m, 0), -2);
        }
        Check.due("forbid(2, 1)", x.forbid(2, 1), -2);
        Check.due("motif(0, 7) stays", x.motif(0, 7), 1);
        Check.due("forbid(0, 0) of no court", new TaleCourt().forbid(0, 0), -2);
    }

    private static void count() {
        TaleCourt x = Check.of("court tellers 3 silent 2;" + "motif worth 1 opens;".repeat(4) + "join 0 to 1;join 1 to 0;"
            + "join 0 to 2;clash 0 and 3;listener loves 1;listener loves 1 0 1;keeps 0 0;");
        TaleCourt none = new TaleCourt();
        String[] words = {"0 MOTIFS", "1 TELLERS", "2 silences each", "3 joins", "4 clashes", "5 LISTENERS", "6 LINES"};
        int[] due = {4, 3, 2, 3, 1, 2, 12};
        for (int what = 0; what < due.length; what++) {
            Edge.of("64", words[what]);
            Check.due("count(" + what + ")", x.count(what), due[what]);
            Check.due("count(" + what + ") of no court", none.count(what), 0);
        }
        Edge.of("64", "7 bytes of the TAPE");
        Check.due("count(7)", x.count(7), 0);
        Check.tape(x, "courts");
        Check.due("count(7)", x.count(7), 6);
        x.feed(0, 0, 0, 0, 0);
        Check.due("count(7)", x.count(7), 26);
        none.feed(0, 0, 0, 0, 0);
        Check.due("count(7) of no court", none.count(7), 20);
        Edge.of("64", "8 turns");
        x.hush();
        x.say(1);
        Check.due("count(8)", x.count(8), 2);
        x.unsay();
        Check.due("count(8)", x.count(8), 1);
        Check.due("count(2), though one was silent", x.count(2), 2);
        Edge.of("64", "9 SLOTS that have a row.");
        for (int slot = 3; slot >= 0; slot--) {
            Check.due("count(9)", x.count(9), 3 - slot);
            x.row(slot, 0, slot);
        }
        Check.due("count(9)", x.count(9), 4);
        x.row(1, 3, 2);
        Check.due("count(9), one in place of another", x.count(9), 4);
        Edge.of("64", "NONE for others.");
        int[] wrong = {10, 11, -1, Integer.MIN_VALUE, Integer.MAX_VALUE};
        for (int what : wrong) {
            Check.due("count(" + what + ")", x.count(what), -1);
            Check.due("count(" + what + ") of no court", none.count(what), -1);
        }
    }
}
