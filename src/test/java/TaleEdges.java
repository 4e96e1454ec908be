/** Promises 13 to 27 and term II: a tale told turn by turn. */
final class TaleEdges {
    private static final int[] NO_MOTIFS = {-1, -2, 9, 10, 32, 64, Integer.MIN_VALUE, Integer.MAX_VALUE};
    private static final int[] NO_TELLERS = {-1, 2, 3, 32, Integer.MIN_VALUE, Integer.MAX_VALUE};
    private static final String[] NINE = {"1", "2", "3", "4", "5", "6", "7", "8 song", "9 song"};
    private static final TaleCourt NO_COURT = new TaleCourt();

    private TaleEdges() {
    }

    static void run() {
        turns();
        leastReason();
        reasonsOneToThree();
        stranger();
        lastTurn();
        keeper();
        debtsPaid();
        silenceAndDebts();
        whole();
        pointsOfEach();
        say();
        hush();
        unsay();
        anew();
        told();
        lengthAndWhose();
        may();
        why();
        owed();
        due();
        wholeNow();
        points();
        share();
        left();
    }

    private static void turns() {
        Edge.of("II", "TALE: turns 0, 1, .., each a MOTIF or silence");
        // As many as there can be: nine motifs and three silences of each of three.
        TaleCourt x = Check.allJoined("court tellers 3 silent 3;", NINE);
        for (int i = 0; i < 9; i++) {
            Check.due("hush()", x.hush(), 2 * i + 1);
            Check.due("say()", x.say(8 - i), i < 2 ? 27 - 3 * i : 9 - i);
        }
        for (int i = 0; i < 18; i++) {
            Check.due("told(" + i + ")", x.told(i), i % 2 == 0 ? 9 : 8 - i / 2);
        }
        Check.due("length()", x.length(), 18);
        Check.due("hush()", x.hush(), -5);
        Check.due("may()", x.may(), 0);
        Edge.of("II", "turn t is the TELLER's whose number is t modulo tellers");
        for (int tellers = 1; tellers <= 3; tellers++) {
            x = Check.allJoined("court tellers " + tellers + " silent 1;", NINE);
            for (int t = 0; t < 9; t++) {
                Check.due("whose()", x.whose(), t % tellers);
                x.say(t);
            }
            x.anew();
            for (int t = 0; t < tellers; t++) {
                Check.due("whose(), silence is a turn too", x.whose(), t);
                x.hush();
            }
            Check.due("whose()", x.whose(), 0);
        }
    }

    /** Turn 2 of a tale where each motif but the last has its reason and all greater ones. */
    private static TaleCourt allReasons() {
        TaleCourt x = Check.of("court tellers 2 silent 3;motif worth 1 opens stranger owes 5 within 1;"
            + "motif worth 1 stranger;motif worth 1 stranger;motif worth 1 stranger;motif worth 1;motif worth 1;"
            + "clash 1 and 0;join 0 to 3;join 0 to 4;join 0 to 5;"
            + "keeps 1 0;keeps 1 1;keeps 1 2;keeps 1 3;keeps 1 4;keeps 1 5;");
        Check.due("hush()", x.hush(), 1);
        Check.due("say(0)", x.say(0), 1);
        return x;
    }

    private static void leastReason() {
        Edge.of("II", "REASONS why a MOTIF may not be told, the least");
        TaleCourt x = allReasons();
        for (int m = 0; m < 6; m++) {
            Check.due("why(" + m + ")", x.why(m), m + 1);
        }
        x.keeps(5, 0);
        Check.due("why(5), kept by him", x.why(5), 0);
        x.keeps(4, 0);
        Check.due("why(4), kept by him", x.why(4), 5);
    }

    private static void reasonsOneToThree() {
        Edge.of("II", "1 it was told already.");
        TaleCourt x = Check.allJoined("court tellers 1 silent 1;", "1", "1", "1");
        x.say(1);
        Check.due("why(1)", x.why(1), 1);
        x.say(0);
        Check.due("why(1), not the latest", x.why(1), 1);
        x.hush();
        Check.due("why(1) behind silence", x.why(1), 1);
        Check.due("why(2)", x.why(2), 0);
        Edge.of("II", "2 it clashes with one that was told.");
        String joined = "court tellers 1 silent 3;motif worth 1 opens;motif worth 1 opens;motif worth 1 opens;motif worth 1;"
            + "join 0 to 1;join 1 to 2;join 2 to 3;join 1 to 0;join 2 to 0;";
        x = Check.of(joined + "clash 0 and 2;");
        Check.due("why(2), nothing told", x.why(2), 0);
        x.say(0);
        Check.due("why(1)", x.why(1), 0);
        x.say(1);
        Check.due("why(2)", x.why(2), 2);
        x.hush();
        Check.due("why(2) behind silence", x.why(2), 2);
        x.anew();
        x.say(1);
        x.say(2);
        Check.due("why(0), the other way", x.why(0), 2);
        Check.due("why(3)", x.why(3), 0);
        Edge.of("II", "3 it does not join on to the latest MOTIF told (ahead of any: it does not open).");
        x = Check.of(joined);
        Check.due("why(3), ahead of any", x.why(3), 3);
        Check.due("why(2), it opens", x.why(2), 0);
        x.hush();
        Check.due("why(3), silence alone ahead", x.why(3), 3);
        Check.due("why(2), silence alone ahead", x.why(2), 0);
        x.say(0);
        Check.due("why(2), it opens, but does not join", x.why(2), 3);
        Check.due("why(1)", x.why(1), 0);
        x.hush();
        Check.due("why(1), the latest motif, not turn", x.why(1), 0);
        x.say(1);
        Check.due("why(3), it joins on to none told", x.why(3), 3);
        x.say(2);
        Check.due("why(3)", x.why(3), 0);
        Check.due("why(1), joined the other way", x.why(1), 1);
    }

    private static void stranger() {
        Edge.of("II", "4 it is a stranger, and the turn is even.");
        for (int tellers = 1; tellers <= 3; tellers++) {
            TaleCourt x = Check.of("court tellers " + tellers + " silent 3;motif worth 1 opens stranger;motif worth 1 opens;"
                + "motif worth 1 stranger;join 1 to 2;");
            for (int t = 0; t < 3; t++) {
                Check.due("why(0), turn " + t, x.why(0), t % 2 == 0 ? 4 : 0);
                Check.due("why(1), turn " + t, x.why(1), 0);
                x.hush();
            }
            x.anew();
            x.say(1);
            Check.due("why(2), turn 1", x.why(2), 0);
            x.hush();
            Check.due("why(2), turn 2", x.why(2), 4);
            Check.due("say(2), turn 2", x.say(2), -5);
        }
    }

    private static void lastTurn() {
        Edge.of("II", "5 a MOTIF that was told owes one that is not told then, and this turn is its last for it"
            + " (by its turn and within), or past that.");
        for (int within = 1; within <= 9; within++) {
            for (int start = 0; start < 2 && start + within <= 9; start++) {
                TaleCourt x = Check.of("court tellers 3 silent 3;motif worth 1 opens owes 2 within " + within
                    + ";motif worth 1;motif worth 1;join 0 to 1;join 0 to 2;");
                for (int t = 0; t < start; t++) {
                    x.hush();
                }
                x.say(0);
                for (int t = 1; t < within; t++) {
                    Check.due("why(1), not yet", x.why(1), 0);
                    Check.due("why(2), not yet", x.why(2), 0);
                    Check.due("hush()", x.hush(), start + t + 1);
                }
                Check.due("why(1), the last turn", x.why(1), 5);
                Check.due("why(2), told then", x.why(2), 0);
                Check.due("hush(), the last turn", x.hush(), -5);
                Check.due("say(1), the last turn", x.say(1), -5);
                Check.due("say(2), the last turn", x.say(2), 1);
            }
        }
        for (int owed = 0; owed < 9; owed++) {
            lastTurnOf(owed);
        }
        // Two that have their last turn at once: neither may be told.
        TaleCourt x = Check.of("court tellers 1 silent 3;motif worth 1 opens owes 2 within 2;motif worth 1 owes 3 within 1;"
            + "motif worth 1;motif worth 1;join 0 to 1;join 1 to 2;join 1 to 3;");
        x.say(0);
        x.say(1);
        Check.due("why(2)", x.why(2), 5);
        Check.due("why(3)", x.why(3), 5);
        Check.due("may()", x.may(), 0);
        Check.due("hush()", x.hush(), -5);
    }

    /** Whichever motif is owed; the one behind it (round) opens and owes it, all are joined. */
    private static void lastTurnOf(int owed) {
        String[] motifs = {"1", "1", "1", "1", "1", "1", "1", "1", "1"};
        int debtor = (owed + 1) % 9;
        int other = (owed + 2) % 9;
        motifs[debtor] = "1 owes " + owed + " within 2";
        TaleCourt x = Check.allJoined("court tellers 1 silent 3;", motifs);
        x.say(debtor);
        Check.due("owed()", x.owed(), 1 << owed);
        Check.due("due()", x.due(owed), 2);
        Check.due("why(), not yet", x.why(other), 0);
        Check.due("may(), not yet", x.may(), 511 - (1 << debtor));
        x.hush();
        Check.due("why(), the last turn", x.why(other), 5);
        Check.due("may(), the last turn", x.may(), 1 << owed);
        x.say(owed);
        Check.due("owed(), paid", x.owed(), 0);
        Check.due("why()", x.why(other), 0);
        x.unsay();
        Check.due("may(), taken back", x.may(), 1 << owed);
        x.unsay();
        x.unsay();
        Check.due("owed(), all taken back", x.owed(), 0);
        x.hush();
        x.say(debtor);
        Check.due("due(), a turn later", x.due(owed), 3);
    }

    private static void keeper() {
        Edge.of("II", "6 another TELLER keeps it.");
        for (int keeper = 0; keeper < 3; keeper++) {
            TaleCourt x = Check.of("court tellers 3 silent 1;motif worth 1 opens;motif worth 1 opens;keeps " + keeper + " 0;");
            for (int t = 0; t < 3; t++) {
                Check.due("why(0)", x.why(0), t == keeper ? 0 : 6);
                Check.due("why(1), kept by nobody", x.why(1), 0);
                Check.due("say(0)", x.say(0), t == keeper ? 1 : -5);
                if (t == keeper) {
                    x.unsay();
                }
                x.hush();
            }
        }
    }

    private static void debtsPaid() {
        Edge.of("II", "(What is owed may have been told ahead of it: it is paid then.");
        TaleCourt x = Check.of("court tellers 1 silent 3;motif worth 1 opens;motif worth 1 owes 0 within 1;motif worth 1;"
            + "join 0 to 1;join 1 to 2;");
        x.say(0);
        x.say(1);
        Check.due("owed()", x.owed(), 0);
        Check.due("due(0)", x.due(0), -1);
        Check.due("whole()", x.whole(), 1);
        Check.due("hush()", x.hush(), 3);
        Check.due("say(2)", x.say(2), 1);
        Edge.of("II", "A MOTIF that is owed and is none in the COURT is never told.)");
        for (int m = 2; m < 9; m++) {
            x = Check.of("court tellers 1 silent 3;motif worth 1 opens owes " + m + " within 2;motif worth 1;join 0 to 1;");
            x.say(0);
            Check.due("owed()", x.owed(), 1 << m);
            Check.due("say()", x.say(m), -2);
            Check.due("why(1)", x.why(1), 0);
            x.say(1);
            Check.due("hush(), the last turn", x.hush(), -5);
            Check.due("whole()", x.whole(), 0);
            x.anew();
            Check.due("wholes()", x.wholes(), 0);
            Check.due("longest()", x.longest(), 2);
        }
    }

    private static void silenceAndDebts() {
        Edge.of("II", "Silence too may not be, if 5 would be.");
        TaleCourt x = Check.of("court tellers 2 silent 3;motif worth 1 opens owes 1 within 2;motif worth 1;");
        x.say(0);
        Check.due("hush(), not yet", x.hush(), 2);
        Check.due("left(0)", x.left(0), 3);
        Check.due("hush(), the last turn", x.hush(), -5);
        Check.due("left(0) stays", x.left(0), 3);
        Check.due("length() stays", x.length(), 2);
        Check.due("whose() stays", x.whose(), 0);
    }

    private static void whole() {
        TaleCourt x = Check.of("court tellers 1 silent 3;motif worth 0 opens;motif worth 0 owes 2 within 2;motif worth 0;"
            + "join 0 to 1;join 1 to 2;forbid 2;");
        Edge.of("II", "WHOLE: some MOTIF was told");
        Check.due("whole(), nothing told", x.whole(), 0);
        x.hush();
        Check.due("whole(), silence alone", x.whole(), 0);
        x.say(0);
        Check.due("whole()", x.whole(), 1);
        Edge.of("II", "none is owed");
        x.say(1);
        Check.due("whole()", x.whole(), 0);
        x.forbid(2, 0);
        x.say(2);
        Check.due("whole(), paid", x.whole(), 1);
        Edge.of("II", "no forbid is for the latest MOTIF.");
        x.forbid(2, 1);
        Check.due("whole(), forbidden", x.whole(), 0);
        x.hush();
        Check.due("whole(), forbidden behind silence", x.whole(), 0);
        x.forbid(2, 0);
        x.forbid(0, 1);
        x.forbid(1, 1);
        Check.due("whole(), earlier ones forbidden", x.whole(), 1);
    }

    private static void pointsOfEach() {
        Edge.of("II", "POINTS: worth of each; of a song three times as much.");
        for (int n = 0; n <= 9; n++) {
            TaleCourt x = Check.of("court tellers 1 silent 1;motif worth " + n + " opens;motif worth " + n + " song;join 0 to 1;");
            x.say(0);
            Check.due("points()", x.points(), n);
            x.hush();
            Check.due("points() of silence", x.points(), n);
            x.say(1);
            Check.due("points() with a song", x.points(), 4 * n);
        }
    }

    private static void say() {
        Edge.of("13", "A MOTIF is told next: its POINTS (II).");
        TaleCourt x = Check.of("court tellers 1 silent 0;motif worth 0 opens;motif worth 9;motif worth 9 song;"
            + "motif worth 0 song;join 0 to 1;join 1 to 2;join 2 to 3;");
        int[] points = {0, 9, 27, 0};
        for (int m = 0; m < 4; m++) {
            Check.due("say(" + m + ")", x.say(m), points[m]);
            Check.due("told()", x.told(m), m);
            Check.due("length()", x.length(), m + 1);
        }
        Check.due("say(8) of nine", Check.allJoined("court tellers 1 silent 0;", NINE).say(8), 27);
        Edge.of("13", "-5: it may not be (why())");
        x = allReasons();
        for (int m = 0; m < 6; m++) {
            Check.due("say(" + m + ")", x.say(m), -5);
            Check.due("length() stays", x.length(), 2);
            Check.due("points() stay", x.points(), 1);
            Check.due("owed() stays", x.owed(), 32);
        }
        Edge.of("13", "-2: there is none such");
        for (int m : NO_MOTIFS) {
            Check.due("say(" + m + ")", x.say(m), -2);
        }
        Check.due("say(6)", x.say(6), -2);
        Check.due("say(0) of no court", NO_COURT.say(0), -2);
        Check.due("say(9) of nine", Check.allJoined("court tellers 1 silent 3;", NINE).say(9), -2);
    }

    private static void hush() {
        Edge.of("14", "Whose turn it is, is silent: how many turns there were then.");
        TaleCourt x = Check.of("court tellers 3 silent 1;motif worth 1 opens;");
        Check.due("hush()", x.hush(), 1);
        Check.due("left(0)", x.left(0), 0);
        Check.due("left(1)", x.left(1), 1);
        Check.due("told(0)", x.told(0), 9);
        x.say(0);
        Check.due("hush()", x.hush(), 3);
        Check.due("left(1)", x.left(1), 1);
        Check.due("left(2)", x.left(2), 0);
        Edge.of("14", "-5: he was so as often as he may");
        Check.due("hush() of 0", x.hush(), -5);
        Check.due("length() stays", x.length(), 3);
        Check.due("left(0) stays", x.left(0), 0);
        x = Check.of("court tellers 2 silent 0;motif worth 1 opens;");
        Check.due("hush(), never", x.hush(), -5);
        x = Check.of("court tellers 2 silent 1;motif worth 1 opens;motif worth 1;join 0 to 1;");
        Check.due("hush() of 0", x.hush(), 1);
        x.say(0);
        Check.due("hush() of 0, not any more", x.hush(), -5);
        x.say(1);
        Check.due("hush() of 1", x.hush(), 4);
        Edge.of("14", "or it may not be (II)");
        x = Check.of("court tellers 2 silent 3;motif worth 1 opens owes 1 within 1;motif worth 1;join 0 to 1;");
        x.say(0);
        Check.due("hush()", x.hush(), -5);
        Check.due("length() stays", x.length(), 1);
        x.say(1);
        Check.due("hush(), paid", x.hush(), 3);
        Edge.of("14", "-2: there is no COURT");
        Check.due("hush()", NO_COURT.hush(), -2);
    }

    private static void unsay() {
        Edge.of("15", "The latest turn is taken back: how many there are.");
        TaleCourt x = Check.of("court tellers 2 silent 1;motif worth 2 opens owes 3 within 9;motif worth 3 song owes 3 within 2;"
            + "motif worth 4;motif worth 5;join 0 to 1;join 0 to 2;join 1 to 3;clash 1 and 2;");
        x.hush();
        x.say(0);
        x.say(1);
        Check.due("due(3)", x.due(3), 4);
        Check.due("why(2)", x.why(2), 2);
        Check.due("unsay()", x.unsay(), 2);
        Check.due("due(3), the earlier debt's", x.due(3), 10);
        Check.due("why(2)", x.why(2), 0);
        Check.due("why(1)", x.why(1), 0);
        Check.due("points()", x.points(), 2);
        Check.due("share(0)", x.share(0), 0);
        Check.due("told(2)", x.told(2), -1);
        Check.due("unsay()", x.unsay(), 1);
        Check.due("owed()", x.owed(), 0);
        Check.due("why(0), it opens", x.why(0), 0);
        Check.due("left(0)", x.left(0), 0);
        Check.due("unsay() of silence", x.unsay(), 0);
        Check.due("left(0)", x.left(0), 1);
        Check.due("whose()", x.whose(), 0);
        x.say(0);
        x.say(1);
        x.say(3);
        Check.due("owed(), paid", x.owed(), 0);
        Check.due("unsay()", x.unsay(), 2);
        Check.due("owed(), not paid", x.owed(), 8);
        Check.due("due(3)", x.due(3), 3);
        x = Check.of("court tellers 1 silent 0;motif worth 1 opens;motif worth 1;motif worth 1 opens;motif worth 1 opens;"
            + "join 0 to 1;join 0 to 2;join 1 to 2;join 1 to 3;clash 0 and 3;clash 1 and 2;");
        x.say(0);
        x.say(1);
        Check.due("why(2), why(3)", 10 * x.why(2) + x.why(3), 22);
        x.unsay();
        Check.due("why(2), why(3), 0 clashes still", 10 * x.why(2) + x.why(3), 2);
        for (int owed = 0; owed < 9; owed++) {
            String[] motifs = {"1", "1", "1", "1", "1", "1", "1", "1", "1"};
            int first = (owed + 3) % 9;
            int second = (owed + 7) % 9;
            motifs[first] = "1 owes " + owed + " within 8";
            motifs[second] = "1 owes " + owed + " within 4";
            x = Check.allJoined("court tellers 1 silent 0;", motifs);
            x.say(first);
            Check.due("due()", x.due(owed), 8);
            x.say(second);
            Check.due("due(), of the second", x.due(owed), 5);
            x.unsay();
            Check.due("due(), of the first again", x.due(owed), 8);
            x.unsay();
            Check.due("due(), of none", x.due(owed), -1);
        }
        x = Check.allJoined("court tellers 3 silent 3;", NINE);
        for (int i = 0; i < 9; i++) {
            x.say(i);
            x.hush();
        }
        for (int turns = 17; turns >= 0; turns--) {
            Check.due("unsay(), of the most", x.unsay(), turns);
        }
        Edge.of("15", "-5: there is none");
        x.anew();
        Check.due("unsay()", x.unsay(), -5);
        Check.due("length()", x.length(), 0);
        Edge.of("15", "-2: there is no COURT");
        Check.due("unsay()", NO_COURT.unsay(), -2);
    }

    private static void anew() {
        Edge.of("16", "All is taken back: how many turns there were.");
        TaleCourt x = Check.of("court tellers 2 silent 1;motif worth 2 opens owes 1 within 9;motif worth 3;clash 0 and 1;");
        Check.due("anew() of none", x.anew(), 0);
        x.hush();
        x.say(0);
        Check.due("anew()", x.anew(), 2);
        Check.due("length()", x.length(), 0);
        Check.due("left(0)", x.left(0), 1);
        Check.due("owed()", x.owed(), 0);
        Check.due("points()", x.points(), 0);
        Check.due("why(0)", x.why(0), 0);
        Check.due("why(1)", x.why(1), 3);
        Check.due("anew() again", x.anew(), 0);
        x = Check.allJoined("court tellers 3 silent 3;", NINE);
        for (int i = 0; i < 9; i++) {
            x.hush();
            x.say(i);
        }
        Check.due("anew() of the most", x.anew(), 18);
        Edge.of("16", "-2: there is no COURT");
        Check.due("anew()", NO_COURT.anew(), -2);
    }

    private static void told() {
        Edge.of("17", "Turn i (from 0): its MOTIF; 9: silence.");
        TaleCourt x = Check.of("court tellers 1 silent 2;motif worth 2;motif worth 3 opens;join 1 to 0;");
        x.say(1);
        x.hush();
        x.say(0);
        x.hush();
        int[] due = {1, 9, 0, 9};
        for (int i = 0; i < 4; i++) {
            Check.due("told(" + i + ")", x.told(i), due[i]);
        }
        Edge.of("17", "NONE: there is none such");
        int[] wrong = {4, 17, 18, -1, Integer.MIN_VALUE, Integer.MAX_VALUE};
        for (int i : wrong) {
            Check.due("told(" + i + ")", x.told(i), -1);
        }
        x.unsay();
        Check.due("told(3), taken back", x.told(3), -1);
        x.anew();
        Check.due("told(0)", x.told(0), -1);
        Edge.of("17", "-2: there is no COURT");
        Check.due("told(0)", NO_COURT.told(0), -2);
        Check.due("told(-1)", NO_COURT.told(-1), -2);
    }

    private static void lengthAndWhose() {
        TaleCourt x = Check.of("court tellers 2 silent 1;motif worth 1 opens;");
        Edge.of("18", "How many turns there were.");
        Check.due("length()", x.length(), 0);
        x.hush();
        Check.due("length()", x.length(), 1);
        x.say(0);
        Check.due("length()", x.length(), 2);
        x.say(0);
        Check.due("length(), refused", x.length(), 2);
        Edge.of("18", "-2: there is no COURT");
        Check.due("length()", NO_COURT.length(), -2);
        Edge.of("19", "Whose turn it is.");
        Check.due("whose()", x.whose(), 0);
        x.unsay();
        Check.due("whose()", x.whose(), 1);
        x.unsay();
        Check.due("whose()", x.whose(), 0);
        Edge.of("19", "-2 likewise");
        Check.due("whose()", NO_COURT.whose(), -2);
    }

    private static void may() {
        Edge.of("20", "MOTIFS that may be told now, as bits.");
        TaleCourt x = Check.allJoined("court tellers 1 silent 0;", NINE);
        for (int m = 0; m < 9; m++) {
            Check.due("may()", x.may(), 511 >> m << m);
            x.say(m);
        }
        Check.due("may(), all told", x.may(), 0);
        Check.due("may() of no motifs", Check.of("court tellers 1 silent 0;").may(), 0);
        x = allReasons();
        Check.due("may(), all have reasons", x.may(), 0);
        x.keeps(5, -1);
        Check.due("may(), what is owed", x.may(), 32);
        Edge.of("20", "-2 likewise");
        Check.due("may()", NO_COURT.may(), -2);
    }

    private static void why() {
        Edge.of("21", "REASON (II) why a MOTIF may not be told now; 0: it may.");
        TaleCourt x = allReasons();
        for (int m = 0; m < 6; m++) {
            Check.due("why(" + m + ")", x.why(m), m + 1);
        }
        Check.due("why() tells nothing", x.length(), 2);
        x.anew();
        x.hush();
        Check.due("why(0)", x.why(0), 0);
        Edge.of("21", "-2: there is none such");
        for (int m : NO_MOTIFS) {
            Check.due("why(" + m + ")", x.why(m), -2);
        }
        Check.due("why(6)", x.why(6), -2);
        Check.due("why(0) of no court", NO_COURT.why(0), -2);
    }

    private static void owed() {
        Edge.of("22", "MOTIFS that are owed now (not told), as bits.");
        TaleCourt x = Check.of("court tellers 1 silent 0;motif worth 1 opens owes 8 within 9;motif worth 1 owes 0 within 9;"
            + "motif worth 1 owes 3 within 9;motif worth 1 owes 8 within 9;join 0 to 1;join 1 to 2;join 2 to 3;");
        int[] due = {0, 256, 256, 256 | 8, 256};
        for (int m = 0; m < 4; m++) {
            Check.due("owed()", x.owed(), due[m]);
            x.say(m);
        }
        Check.due("owed()", x.owed(), due[4]);
        Check.due("owed() of no motifs", Check.of("court tellers 1 silent 0;").owed(), 0);
        Edge.of("22", "-2: there is no COURT");
        Check.due("owed()", NO_COURT.owed(), -2);
    }

    private static void due() {
        Edge.of("23", "The last turn (from 0) in which a MOTIF that is owed now may be told at the latest");
        for (int within = 1; within <= 9; within++) {
            TaleCourt x = Check.of("court tellers 1 silent 3;motif worth 1 opens owes 1 within " + within
                + ";motif worth 1;join 0 to 1;");
            x.say(0);
            Check.due("due(1)", x.due(1), within);
            x.anew();
            x.hush();
            x.hush();
            x.say(0);
            Check.due("due(1)", x.due(1), 2 + within);
        }
        String joins = "motif worth 1;motif worth 1;join 0 to 1;join 1 to 2;";
        TaleCourt x = Check.of("court tellers 1 silent 3;motif worth 1 opens owes 3 within 3;motif worth 1 owes 3 within 9;" + joins);
        x.say(0);
        x.say(1);
        Check.due("due(3), the first debt's", x.due(3), 3);
        x = Check.of("court tellers 1 silent 3;motif worth 1 opens owes 3 within 9;motif worth 1 owes 3 within 3;" + joins);
        x.say(0);
        x.say(1);
        Check.due("due(3), the second debt's", x.due(3), 4);
        Edge.of("23", "NONE: it is not owed");
        Check.due("due(0), told", x.due(0), -1);
        Check.due("due(2)", x.due(2), -1);
        x.anew();
        Check.due("due(3), nothing told", x.due(3), -1);
        x = Check.of("court tellers 1 silent 0;motif worth 1 opens owes 1 within 3;motif worth 1 owes 0 within 3;join 0 to 1;");
        x.say(0);
        x.say(1);
        Check.due("due(1), paid", x.due(1), -1);
        Check.due("due(0), paid ahead", x.due(0), -1);
        Edge.of("23", "-2: there is none such");
        for (int m : NO_MOTIFS) {
            Check.due("due(" + m + ")", x.due(m), -2);
        }
        Check.due("due(2)", x.due(2), -2);
        Check.due("due(0) of no court", NO_COURT.due(0), -2);
    }

    private static void wholeNow() {
        Edge.of("24", "Whether the tale is WHOLE now: 1, 0.");
        TaleCourt x = Check.of("court tellers 1 silent 1;motif worth 1 opens owes 1 within 2;motif worth 1;join 0 to 1;");
        int[] due = {0, 0, 1};
        for (int m = 0; m < 2; m++) {
            Check.due("whole()", x.whole(), due[m]);
            x.say(m);
        }
        Check.due("whole()", x.whole(), due[2]);
        x.hush();
        Check.due("whole() behind silence", x.whole(), 1);
        x.unsay();
        x.unsay();
        Check.due("whole(), taken back", x.whole(), 0);
        Edge.of("24", "-2: there is no COURT");
        Check.due("whole()", NO_COURT.whole(), -2);
    }

    private static void points() {
        Edge.of("25", "POINTS of the tale as it is told.");
        TaleCourt x = Check.allJoined("court tellers 2 silent 1;", "9 song", "9 song", "9 song", "9 song", "9 song", "9 song",
            "9 song", "9 song", "9 song");
        for (int m = 0; m < 9; m++) {
            Check.due("points()", x.points(), 27 * m);
            x.say(m);
        }
        Check.due("points(), the most there are", x.points(), 243);
        x.unsay();
        Check.due("points(), taken back", x.points(), 216);
        x.anew();
        Check.due("points(), all taken back", x.points(), 0);
        Edge.of("25", "-2 likewise");
        Check.due("points()", NO_COURT.points(), -2);
    }

    private static void share() {
        Edge.of("26", "POINTS of what a TELLER told.");
        TaleCourt x = Check.allJoined("court tellers 2 silent 1;", NINE);
        Check.due("share(0), nothing", x.share(0), 0);
        Check.due("share(1), nothing", x.share(1), 0);
        x.say(0);
        x.hush();
        x.say(1);
        x.say(8);
        x.hush();
        x.say(7);
        Check.due("share(0)", x.share(0), 1 + 2);
        Check.due("share(1)", x.share(1), 27 + 24);
        x.unsay();
        Check.due("share(1), taken back", x.share(1), 27);
        x = Check.allJoined("court tellers 1 silent 1;", NINE);
        x.say(0);
        x.say(8);
        x.hush();
        x.say(1);
        Check.due("share(0), all his", x.share(0), 30);
        x = Check.allJoined("court tellers 3 silent 3;", NINE);
        for (int i = 0; i < 9; i++) {
            x.hush();
            x.say(i);
        }
        // Turns 1, 3, .., 17 tell 0 .. 8: teller 0 told 1, 4, 7, teller 1 told 0, 3, 6, teller 2 told 2, 5, 8.
        Check.due("share(0)", x.share(0), 2 + 5 + 24);
        Check.due("share(1)", x.share(1), 1 + 4 + 7);
        Check.due("share(2)", x.share(2), 3 + 6 + 27);
        Edge.of("26", "-2: there is none such");
        x = Check.of("court tellers 2 silent 0;");
        for (int teller : NO_TELLERS) {
            Check.due("share(" + teller + ")", x.share(teller), -2);
        }
        Check.due("share(1) of one", Check.of("court tellers 1 silent 0;").share(1), -2);
        Check.due("share(2) of three", Check.of("court tellers 3 silent 0;").share(2), 0);
        Check.due("share(0) of no court", NO_COURT.share(0), -2);
    }

    private static void left() {
        Edge.of("27", "How often a TELLER may be silent still.");
        TaleCourt x = Check.of("court tellers 2 silent 3;motif worth 1 opens;");
        int[] ofOne = {3, 3, 2, 2, 1, 1, 0};
        int[] ofZero = {3, 2, 2, 1, 1, 0, 0};
        for (int t = 0; t <= 6; t++) {
            Check.due("left(0)", x.left(0), ofZero[t]);
            Check.due("left(1)", x.left(1), ofOne[t]);
            x.hush();
        }
        x.unsay();
        Check.due("left(1), taken back", x.left(1), 1);
        Edge.of("27", "-2: there is none such");
        for (int teller : NO_TELLERS) {
            Check.due("left(" + teller + ")", x.left(teller), -2);
        }
        Check.due("left(1) of one", Check.of("court tellers 1 silent 2;").left(1), -2);
        Check.due("left(2) of three", Check.of("court tellers 3 silent 2;").left(2), 2);
        Check.due("left(0) of no court", NO_COURT.left(0), -2);
    }
}
