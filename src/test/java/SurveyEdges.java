/** Promises 28 to 38, 47, 49 to 51 and term III: what can come of a tale. */
final class SurveyEdges {
    private static final int[] NO_MOTIFS = {-1, -2, 9, 10, 32, 64, Integer.MIN_VALUE, Integer.MAX_VALUE};
    private static final int[] NO_PLACES = {-1, 9, 10, 18, Integer.MIN_VALUE, Integer.MAX_VALUE};
    private static final TaleCourt NO_COURT = new TaleCourt();
    private static final String NO_MOTIF = "court tellers 1 silent 1;";
    /** Tales: 0, 01, 02, 012; 02 (10 points) and 012 (12 points) are whole. */
    private static final String SMALL = "court tellers 2 silent 1;motif worth 1 opens;motif worth 2 owes 2 within 2;"
        + "motif worth 3 song;join 0 to 1;join 0 to 2;join 1 to 2;forbid 0;";
    /** No tale is whole: what 0 owes does not join. */
    private static final String NEVER = "court tellers 1 silent 0;motif worth 1 opens owes 1 within 1;motif worth 1;";

    private SurveyEdges() {
    }

    static void run() {
        fromNowOn();
        firstRow();
        longest();
        full();
        line();
        best();
        tale();
        roof();
        beam();
        rows();
        wholes();
        ends();
        always();
        around();
        lack();
        crux();
        cost();
    }

    /** Nine motifs, each joined on to each. */
    private static TaleCourt nine() {
        return Check.allJoined("court tellers 1 silent 0;", "1", "2", "3", "4", "5", "6", "7", "8", "9");
    }

    private static void rowsDue(TaleCourt x, int... due) {
        for (int n = 0; n <= 9; n++) {
            Check.due("rows(" + n + ")", x.rows(n), n < due.length ? due[n] : 0);
        }
        Check.due("longest()", x.longest(), due.length - 1);
    }

    private static void fromNowOn() {
        String text = "court tellers 2 silent 3;motif worth 1 opens;motif worth 1;motif worth 1;motif worth 1 stranger;"
            + "motif worth 1;join 0 to 1;join 0 to 2;join 1 to 3;join 0 to 4;clash 0 and 2;keeps 0 4;";
        Edge.of("III", "From the tale as it is now on");
        TaleCourt x = Check.of(text);
        rowsDue(x, 1, 1, 1);
        x.say(0);
        rowsDue(x, 1, 1);
        x.say(1);
        rowsDue(x, 1);
        x.anew();
        x.hush();
        // A turn later 4 is told by its keeper, and 3 by night.
        rowsDue(x, 1, 1, 2, 1);
        Check.due("length(), nothing is told by it", x.length(), 1);
        Edge.of("III", "by MOTIFS that may be told");
        x = Check.of("court tellers 1 silent 0;motif worth 1 opens owes 3 within 2;motif worth 1;motif worth 1;motif worth 1;"
            + "join 0 to 1;join 1 to 2;join 1 to 3;join 2 to 3;join 0 to 3;");
        rowsDue(x, 1, 1, 2, 1);
        Check.due("line(2), what is owed", x.line(2), 3);
        x = Check.of("court tellers 2 silent 0;motif worth 1 opens;motif worth 1 opens;join 0 to 1;join 1 to 0;keeps 1 0;");
        rowsDue(x, 1, 1, 1);
        x = Check.of("court tellers 1 silent 0;motif worth 1 opens;motif worth 1 opens;motif worth 1;join 0 to 1;join 1 to 0;"
            + "join 1 to 2;clash 2 and 0;");
        rowsDue(x, 1, 2, 3);
        // Behind 0 1 2 it is the last turn for 4, behind 1 0 2 not yet.
        x = Check.of("court tellers 1 silent 0;motif worth 1 opens owes 4 within 3;motif worth 1 opens;motif worth 1;motif worth 1;"
            + "motif worth 1;join 0 to 1;join 1 to 0;join 0 to 2;join 1 to 2;join 2 to 3;join 2 to 4;join 3 to 4;");
        rowsDue(x, 1, 2, 4, 6, 5, 1);
        Check.due("wholes()", x.wholes(), 10);
        Check.due("line(0)", x.line(0), 1);
        Check.due("best()", x.best(), 5);
        // The same, 0 and 4 changed.
        x = Check.of("court tellers 1 silent 0;motif worth 1;motif worth 1 opens;motif worth 1;motif worth 1;"
            + "motif worth 1 opens owes 0 within 3;join 4 to 1;join 1 to 4;join 4 to 2;join 1 to 2;join 2 to 3;join 2 to 0;"
            + "join 3 to 0;");
        rowsDue(x, 1, 2, 4, 6, 5, 1);
        Check.due("wholes()", x.wholes(), 10);
        Edge.of("III", "nobody silent.");
        x = Check.of("court tellers 1 silent 3;motif worth 1 opens;motif worth 1;motif worth 1 stranger;motif worth 1 opens stranger;"
            + "join 0 to 1;join 1 to 2;");
        rowsDue(x, 1, 1, 1);
        x = Check.of("court tellers 1 silent 3;motif worth 1 opens stranger;");
        rowsDue(x, 1);
        Check.due("wholes()", x.wholes(), 0);
    }

    private static void firstRow() {
        Edge.of("III", "The first row: the shortest");
        TaleCourt x = Check.of("court tellers 1 silent 0;motif worth 0 opens;motif worth 5 opens;join 0 to 1;join 1 to 0;");
        Check.due("best()", x.best(), 5);
        Check.due("tale(0)", x.tale(0), 1);
        Check.due("tale(1)", x.tale(1), -1);
        Check.due("beam(5, 0)", x.beam(5, 0), 1);
        Check.due("beam(5, 1)", x.beam(5, 1), -1);
        Edge.of("III", "of these the least row of MOTIFS.");
        x = Check.of("court tellers 1 silent 0;motif worth 1 opens;motif worth 2 opens;motif worth 2;motif worth 1;"
            + "join 1 to 2;join 0 to 3;join 1 to 3;join 3 to 2;join 1 to 0;join 0 to 2;");
        // Three points or more by two motifs: 0 2, 1 0, 1 2, 1 3; four points by 1 2 alone.
        Check.due("longest()", x.longest(), 4);
        int[] line = {1, 0, 3, 2};
        for (int i = 0; i < 4; i++) {
            Check.due("line(" + i + ")", x.line(i), line[i]);
        }
        Check.due("roof(3)", x.roof(3), 2);
        Check.due("beam(3, 0), 0 ahead of 1", x.beam(3, 0), 0);
        Check.due("beam(3, 1), 2", x.beam(3, 1), 2);
        Check.due("beam(4, 0), the shortest ahead of the least", x.beam(4, 0), 1);
        Check.due("beam(4, 1)", x.beam(4, 1), 2);
        Check.due("beam(4, 2)", x.beam(4, 2), -1);
    }

    private static void longest() {
        Edge.of("28", "LONGEST (III): the most MOTIFS more that can be told.");
        TaleCourt x = nine();
        for (int m = 0; m < 9; m++) {
            Check.due("longest()", x.longest(), 9 - m);
            x.say(m);
        }
        Check.due("longest(), all told", x.longest(), 0);
        Check.due("longest() of no motifs", Check.of(NO_MOTIF).longest(), 0);
        Check.due("longest(), none opens", Check.of("court tellers 1 silent 0;motif worth 1;").longest(), 0);
        Check.due("longest(), whole or not", Check.of(NEVER).longest(), 1);
        Edge.of("28", "-2: there is no COURT");
        Check.due("longest()", NO_COURT.longest(), -2);
    }

    private static void full() {
        Edge.of("29", "The most by which the tale is WHOLE then (0: as it is).");
        TaleCourt x = Check.of(SMALL);
        Check.due("full()", x.full(), 3);
        x.forbid(0, 0);
        x.forbid(2, 1);
        Check.due("full(), though longest() is more", x.full(), 1);
        x.say(0);
        Check.due("full(), as it is", x.full(), 0);
        x.forbid(2, 0);
        x.say(2);
        Check.due("full(), nothing more", x.full(), 0);
        Edge.of("29", "NONE: by none");
        x.forbid(2, 1);
        Check.due("full()", x.full(), -1);
        Check.due("full()", Check.of(NEVER).full(), -1);
        Check.due("full() of no motifs", Check.of(NO_MOTIF).full(), -1);
        Edge.of("29", "-2 likewise");
        Check.due("full()", NO_COURT.full(), -2);
    }

    private static void line() {
        Edge.of("30", "The i-th MOTIF (from 0) of the first LONGEST row.");
        TaleCourt x = nine();
        for (int i = 0; i < 9; i++) {
            Check.due("line(" + i + ")", x.line(i), i);
        }
        x.say(4);
        x.say(0);
        int[] due = {1, 2, 3, 5, 6, 7, 8};
        for (int i = 0; i < 7; i++) {
            Check.due("line(" + i + ")", x.line(i), due[i]);
        }
        Edge.of("30", "NONE: there is none such");
        Check.due("line(7)", x.line(7), -1);
        for (int i : NO_PLACES) {
            Check.due("line(" + i + ")", x.line(i), -1);
        }
        Check.due("line(9) of nine", nine().line(9), -1);
        Check.due("line(0) of no motifs", Check.of(NO_MOTIF).line(0), -1);
        Edge.of("30", "-2 likewise");
        Check.due("line(0)", NO_COURT.line(0), -2);
        Check.due("line(-1)", NO_COURT.line(-1), -2);
    }

    private static void best() {
        Edge.of("31", "The most POINTS (all told) of a WHOLE tale.");
        TaleCourt x = Check.of(SMALL);
        Check.due("best()", x.best(), 12);
        x.say(0);
        Check.due("best(), what was told with it", x.best(), 12);
        x.say(2);
        Check.due("best(), as it is", x.best(), 10);
        Check.due("best() of nine", nine().best(), 45);
        x = Check.of("court tellers 1 silent 0;motif worth 0 opens;");
        Check.due("best(), 0", x.best(), 0);
        x = Check.of("court tellers 1 silent 0;motif worth 1 opens;motif worth 9;join 0 to 1;forbid 1;");
        Check.due("best(), greater ones are not whole", x.best(), 1);
        Edge.of("31", "NONE: there is none");
        Check.due("best()", Check.of(NEVER).best(), -1);
        Check.due("best() of no motifs", Check.of(NO_MOTIF).best(), -1);
        x.say(0);
        x.say(1);
        Check.due("best(), none any more", x.best(), -1);
        Edge.of("31", "-2 likewise");
        Check.due("best()", NO_COURT.best(), -2);
    }

    private static void tale() {
        Edge.of("32", "The i-th MOTIF more of the first such.");
        TaleCourt x = Check.of(SMALL);
        for (int i = 0; i < 3; i++) {
            Check.due("tale(" + i + ")", x.tale(i), i);
        }
        x.say(0);
        Check.due("tale(0), more", x.tale(0), 1);
        Check.due("tale(1), more", x.tale(1), 2);
        Check.due("tale(8) of nine", nine().tale(8), 8);
        TaleCourt low = Check.of("court tellers 1 silent 0;motif worth 0;motif worth 0 opens;forbid 0;");
        Check.due("tale(0) of 0 points", low.tale(0), 1);
        Edge.of("32", "NONE, -2 likewise");
        Check.due("tale(2)", x.tale(2), -1);
        for (int i : NO_PLACES) {
            Check.due("tale(" + i + ")", x.tale(i), -1);
        }
        x.say(2);
        Check.due("tale(0), as it is", x.tale(0), -1);
        Check.due("tale(9) of nine", nine().tale(9), -1);
        Check.due("tale(0), none is whole", Check.of(NEVER).tale(0), -1);
        Check.due("tale(0)", NO_COURT.tale(0), -2);
        Check.due("tale(-1)", NO_COURT.tale(-1), -2);
    }

    private static void roof() {
        Edge.of("33", "ROOF: the fewest MOTIFS more by which the tale is WHOLE and has n POINTS or more.");
        TaleCourt x = Check.of(SMALL);
        int[] points = {0, 1, 10, 11, 12};
        int[] due = {2, 2, 2, 3, 3};
        for (int k = 0; k < 5; k++) {
            Check.due("roof(" + points[k] + ")", x.roof(points[k]), due[k]);
        }
        x.say(0);
        Check.due("roof(10), what was told counts", x.roof(10), 1);
        x.say(2);
        Check.due("roof(10), as it is", x.roof(10), 0);
        Check.due("roof(0), as it is", x.roof(0), 0);
        x = Check.of(SMALL);
        x.forbid(0, 0);
        x.say(0);
        Check.due("roof(1), as it is, though more can be told", x.roof(1), 0);
        Check.due("roof(2)", x.roof(2), 1);
        TaleCourt all = nine();
        int[] sums = {9, 17, 24, 30, 35, 39, 42, 44, 45};
        for (int k = 0; k < 9; k++) {
            Check.due("roof(" + sums[k] + ")", all.roof(sums[k]), k + 1);
        }
        Edge.of("33", "NONE: by none");
        x.say(2);
        Check.due("roof(11)", x.roof(11), -1);
        Check.due("roof(max)", x.roof(Integer.MAX_VALUE), -1);
        Check.due("roof(46) of nine", all.roof(46), -1);
        Check.due("roof(0), none is whole", Check.of(NEVER).roof(0), -1);
        Edge.of("33", "-2: there is no COURT, n is below 0");
        Check.due("roof(0)", NO_COURT.roof(0), -2);
        Check.due("roof(-1)", x.roof(-1), -2);
        Check.due("roof(min)", x.roof(Integer.MIN_VALUE), -2);
    }

    private static void beam() {
        Edge.of("34", "The i-th MOTIF more of the first such.");
        TaleCourt x = Check.of(SMALL);
        Check.due("beam(10, 0)", x.beam(10, 0), 0);
        Check.due("beam(10, 1)", x.beam(10, 1), 2);
        Check.due("beam(11, 1)", x.beam(11, 1), 1);
        Check.due("beam(11, 2)", x.beam(11, 2), 2);
        TaleCourt all = nine();
        Check.due("beam(45, 8)", all.beam(45, 8), 8);
        Check.due("beam(16, 0)", all.beam(16, 0), 6);
        Check.due("beam(16, 1)", all.beam(16, 1), 8);
        x.say(0);
        Check.due("beam(10, 0), more", x.beam(10, 0), 2);
        Edge.of("34", "NONE, -2 likewise");
        Check.due("beam(10, 1)", x.beam(10, 1), -1);
        Check.due("beam(13, 0), by none", x.beam(13, 0), -1);
        for (int i : NO_PLACES) {
            Check.due("beam(0, " + i + ")", x.beam(0, i), -1);
            Check.due("beam(-1, " + i + ")", x.beam(-1, i), -2);
        }
        Check.due("beam(45, 9)", all.beam(45, 9), -1);
        x.say(2);
        Check.due("beam(10, 0), as it is", x.beam(10, 0), -1);
        x.unsay();
        x.forbid(0, 0);
        Check.due("beam(1, 0), as it is, though more can be told", x.beam(1, 0), -1);
        Check.due("beam(min, 0)", x.beam(Integer.MIN_VALUE, 0), -2);
        Check.due("beam(0, 0)", NO_COURT.beam(0, 0), -2);
    }

    private static void rows() {
        Edge.of("35", "How many rows of just n (0 .. 9) MOTIFS more there are.");
        rowsDue(nine(), 1, 9, 72, 504, 3024, 15120, 60480, 181440, 362880, 362880);
        rowsDue(Check.of(NO_MOTIF), 1);
        rowsDue(Check.of(NEVER), 1, 1);
        TaleCourt x = Check.of(SMALL);
        rowsDue(x, 1, 1, 2, 1);
        x.say(0);
        rowsDue(x, 1, 2, 1);
        Edge.of("35", "-2: there is no such n, no COURT");
        int[] wrong = {-1, 10, 11, Integer.MIN_VALUE, Integer.MAX_VALUE};
        for (int n : wrong) {
            Check.due("rows(" + n + ")", x.rows(n), -2);
        }
        Check.due("rows(0)", NO_COURT.rows(0), -2);
    }

    private static void wholes() {
        Edge.of("36", "How many WHOLE tales there are from now on (as it is, if it is one, too).");
        TaleCourt x = Check.of(SMALL);
        Check.due("wholes()", x.wholes(), 2);
        x.say(0);
        Check.due("wholes()", x.wholes(), 2);
        x.forbid(0, 0);
        Check.due("wholes(), as it is too", x.wholes(), 3);
        x.hush();
        // Turn 3 is the last for what 1 owes: 0 . 1 2 is told in time.
        Check.due("wholes() behind silence", x.wholes(), 3);
        x.unsay();
        x.say(2);
        Check.due("wholes(), as it is alone", x.wholes(), 1);
        x.forbid(2, 1);
        Check.due("wholes(), none", x.wholes(), 0);
        Check.due("wholes() of nine", nine().wholes(), 986409);
        Check.due("wholes() of no motifs", Check.of(NO_MOTIF).wholes(), 0);
        Edge.of("36", "-2: there is no COURT");
        Check.due("wholes()", NO_COURT.wholes(), -2);
    }

    private static void ends() {
        Edge.of("37", "How many of them end with a MOTIF.");
        TaleCourt x = Check.of(SMALL);
        x.forbid(0, 0);
        int[] due = {1, 0, 2};
        for (int m = 0; m < 3; m++) {
            Check.due("ends(" + m + ")", x.ends(m), due[m]);
        }
        x.say(0);
        Check.due("ends(0), as it is", x.ends(0), 1);
        x.hush();
        Check.due("ends(0), as it is, silence aside", x.ends(0), 1);
        x.forbid(0, 1);
        Check.due("ends(0), forbidden", x.ends(0), 0);
        TaleCourt all = nine();
        for (int m = 0; m < 9; m++) {
            Check.due("ends(" + m + ") of nine", all.ends(m), 109601);
        }
        Edge.of("37", "-2: there is none such");
        for (int m : NO_MOTIFS) {
            Check.due("ends(" + m + ")", x.ends(m), -2);
        }
        Check.due("ends(3)", x.ends(3), -2);
        Check.due("ends(0)", NO_COURT.ends(0), -2);
    }

    private static void always() {
        TaleCourt x = Check.of(SMALL);
        TaleCourt all = nine();
        Edge.of("38", "MOTIFS that are in all of them, as bits (what 0)");
        Check.due("always(0)", x.always(0), 5);
        Check.due("always(0) of nine", all.always(0), 0);
        all.say(4);
        Check.due("always(0), what was told", all.always(0), 16);
        x.say(0);
        x.say(2);
        Check.due("always(0), as it is", x.always(0), 5);
        Edge.of("38", "in some (1)");
        Check.due("always(1), as it is", x.always(1), 5);
        x.anew();
        Check.due("always(1)", x.always(1), 7);
        Check.due("always(1) of nine", all.always(1), 511);
        x = Check.of("court tellers 1 silent 0;motif worth 1 opens;motif worth 1;motif worth 1;join 0 to 1;forbid 1;");
        Check.due("always(1), in none that is whole", x.always(1), 1);
        Edge.of("38", "0 without any");
        x.say(0);
        x.say(1);
        Check.due("always(0)", x.always(0), 0);
        Check.due("always(1)", x.always(1), 0);
        Check.due("always(0) of no motifs", Check.of(NO_MOTIF).always(0), 0);
        Check.due("always(1) of no motifs", Check.of(NO_MOTIF).always(1), 0);
        Edge.of("38", "-2: there is no such what, no COURT");
        int[] wrong = {-1, 2, 3, Integer.MIN_VALUE, Integer.MAX_VALUE};
        for (int what : wrong) {
            Check.due("always(" + what + ")", x.always(what), -2);
        }
        Check.due("always(0)", NO_COURT.always(0), -2);
        Check.due("always(1)", NO_COURT.always(1), -2);
    }

    private static void around() {
        Edge.of("47", "How many WHOLE tales there are fewer, if no tale might end with a MOTIF either.");
        TaleCourt x = Check.of(SMALL);
        int[] due = {0, 0, 2};
        for (int m = 0; m < 3; m++) {
            Check.due("around(" + m + ")", x.around(m), due[m]);
        }
        x.forbid(0, 0);
        Check.due("around(0), not forbidden yet", x.around(0), 1);
        Check.due("motif(0, 7) stays", x.motif(0, 7), 0);
        x.say(0);
        x.hush();
        for (int m = 0; m < 3; m++) {
            int all = x.wholes();
            int around = x.around(m);
            x.forbid(m, 1);
            Check.due("around(" + m + ") by forbid()", around, all - x.wholes());
            x.forbid(m, 0);
        }
        Check.due("around(8) of nine", nine().around(8), 109601);
        Edge.of("47", "-2: there is none such");
        for (int m : NO_MOTIFS) {
            Check.due("around(" + m + ")", x.around(m), -2);
        }
        Check.due("around(3)", x.around(3), -2);
        Check.due("around(0)", NO_COURT.around(0), -2);
    }

    private static void lack() {
        Edge.of("49", "How many fewer WHOLE tales there are from now on, if a MOTIF were not told any more"
            + " (as it is now stays).");
        TaleCourt x = Check.of(SMALL);
        int[] due = {2, 1, 2};
        for (int m = 0; m < 3; m++) {
            Check.due("lack(" + m + ")", x.lack(m), due[m]);
        }
        x.say(0);
        Check.due("lack(0), told already", x.lack(0), 0);
        Check.due("lack(2)", x.lack(2), 2);
        x.say(2);
        for (int m = 0; m < 3; m++) {
            Check.due("lack(" + m + "), as it is stays", x.lack(m), 0);
        }
        x = Check.of("court tellers 1 silent 0;motif worth 1 opens;motif worth 1;join 0 to 1;");
        x.say(0);
        Check.due("lack(1), the tale as it is stays", x.lack(1), 1);
        Check.due("lack(0) of nine", nine().lack(0), 876809);
        Edge.of("49", "-2: there is none such");
        for (int m : NO_MOTIFS) {
            Check.due("lack(" + m + ")", x.lack(m), -2);
        }
        Check.due("lack(2)", x.lack(2), -2);
        Check.due("lack(0)", NO_COURT.lack(0), -2);
    }

    private static void crux() {
        Edge.of("50", "The MOTIF of which that is most, the first of several.");
        TaleCourt x = Check.of(SMALL);
        Check.due("crux(), 0 as much as 2", x.crux(), 0);
        x.say(0);
        Check.due("crux()", x.crux(), 2);
        x.say(2);
        Check.due("crux(), nothing lacks", x.crux(), 0);
        Check.due("crux(), none is whole", Check.of(NEVER).crux(), 0);
        Check.due("crux() of nine", nine().crux(), 0);
        x = Check.of("court tellers 1 silent 0;motif worth 1;motif worth 1 opens;motif worth 1;join 1 to 0;join 1 to 2;");
        Check.due("crux(), in the middle", x.crux(), 1);
        x.say(1);
        Check.due("crux(), the first", x.crux(), 0);
        x = Check.of("court tellers 1 silent 0;" + "motif worth 1;".repeat(8) + "motif worth 1 opens;");
        Check.due("crux(), the last", x.crux(), 8);
        Edge.of("50", "NONE: there are no MOTIFS");
        Check.due("crux()", Check.of(NO_MOTIF).crux(), -1);
        Edge.of("50", "-2: there is no COURT");
        Check.due("crux()", NO_COURT.crux(), -2);
    }

    private static void cost() {
        Edge.of("51", "By how many POINTS less the best WHOLE tale has then.");
        TaleCourt x = Check.of(SMALL);
        Check.due("cost(1)", x.cost(1), 2);
        TaleCourt all = nine();
        for (int m = 0; m < 9; m++) {
            Check.due("cost(" + m + ") of nine", all.cost(m), m + 1);
        }
        x.say(0);
        Check.due("cost(0), told already", x.cost(0), 0);
        x = Check.of("court tellers 1 silent 0;motif worth 4 opens;motif worth 2 song;join 0 to 1;");
        x.say(0);
        Check.due("cost(1), a song, as it is stays", x.cost(1), 6);
        x = Check.of("court tellers 1 silent 0;motif worth 0 opens;motif worth 0 opens;motif worth 3 opens;");
        Check.due("cost(2), 0 points are left", x.cost(2), 3);
        x.say(0);
        Check.due("cost(1), of 0 points", x.cost(1), 0);
        x = Check.of("court tellers 1 silent 0;motif worth 4 opens;motif worth 2 song;join 0 to 1;");
        Edge.of("51", "NONE: there is none now, or none then");
        Check.due("cost(0), none then", Check.of(SMALL).cost(0), -1);
        Check.due("cost(2), none then", Check.of(SMALL).cost(2), -1);
        Check.due("cost(0), none now", Check.of(NEVER).cost(0), -1);
        Check.due("cost(1), none now", Check.of(NEVER).cost(1), -1);
        Edge.of("51", "-2: there is no such MOTIF");
        for (int m : NO_MOTIFS) {
            Check.due("cost(" + m + ")", x.cost(m), -2);
        }
        Check.due("cost(2)", x.cost(2), -2);
        Check.due("cost(0)", NO_COURT.cost(0), -2);
    }
}
