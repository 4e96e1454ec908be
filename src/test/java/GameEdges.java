import java.util.Arrays;

/** Promises 39 to 44, 48 and term IV: the game of two. */
final class GameEdges {
    private static final TaleCourt NO_COURT = new TaleCourt();
    private static final String HEAD = "court tellers 2 silent 0;";
    private static final String OPENS = "motif worth 0 opens;";
    private static final String MOTIF = "motif worth 0;";
    /** 0 opens, then 1 or 2; 1 goes on to 2. */
    private static final String FORK = OPENS + MOTIF + MOTIF + "join 0 to 1;join 0 to 2;join 1 to 2;";
    /** Who opens with 0 has won at once, who opens with 1 goes on by 2 and 3. */
    private static final String TWO_WAYS = OPENS + OPENS + MOTIF + MOTIF + "join 1 to 2;join 2 to 3;";

    private GameEdges() {
    }

    static void run() {
        inTurn();
        owedAside();
        mayBeTold();
        silences();
        turnsCountOn();
        wins();
        move();
        lasts();
        good();
        kept();
        trade();
        blunder();
    }

    private static void game(TaleCourt x, int wins, int move, int lasts, int good) {
        Check.due("wins()", x.wins(), wins);
        Check.due("move()", x.move(), move);
        Check.due("lasts()", x.lasts(), lasts);
        Check.due("good()", x.good(), good);
    }

    /** A line of n motifs, one behind the other. */
    private static String chain(int n) {
        StringBuilder text = new StringBuilder(n > 0 ? OPENS + MOTIF.repeat(n - 1) : "");
        for (int m = 1; m < n; m++) {
            text.append("join ").append(m - 1).append(" to ").append(m).append(';');
        }
        return text.toString();
    }

    private static void inTurn() {
        Edge.of("IV", "GAME: two TELLERS go on in turn");
        for (int n = 0; n <= 9; n++) {
            TaleCourt x = Check.of(HEAD + chain(n));
            for (int t = 0; t <= n; t++) {
                boolean isWon = (n - t) % 2 == 1;
                game(x, isWon ? 1 : 0, isWon ? t : -1, n - t, isWon ? 1 << t : 0);
                x.say(t);
            }
            Check.due("length()", x.length(), n);
        }
        Edge.of("IV", "who can do neither has lost.");
        game(Check.of(HEAD), 0, -1, 0, 0);
        game(Check.of(HEAD + MOTIF), 0, -1, 0, 0);
        TaleCourt x = Check.of(HEAD + OPENS);
        x.say(0);
        game(x, 0, -1, 0, 0);
    }

    private static void owedAside() {
        Edge.of("IV", "what is owed and WHOLE aside (REASON 5 never is)");
        TaleCourt x = Check.of(HEAD + "motif worth 0 opens owes 2 within 1;" + MOTIF + MOTIF + "join 0 to 1;forbid 0;forbid 1;");
        game(x, 0, -1, 2, 0);
        x.say(0);
        Check.due("why(1)", x.why(1), 5);
        game(x, 1, 1, 1, 2);
        x = Check.of("court tellers 2 silent 1;motif worth 0 opens owes 1 within 1;" + MOTIF);
        x.say(0);
        Check.due("hush()", x.hush(), -5);
        // Both can be silent once in the game.
        game(x, 0, -1, 2, 0);
    }

    private static void mayBeTold() {
        Edge.of("IV", "each tells a MOTIF that may be told");
        game(Check.of(HEAD + OPENS + MOTIF + "join 0 to 1;join 1 to 0;"), 0, -1, 2, 0);
        game(Check.of(HEAD + OPENS + MOTIF + "join 0 to 1;clash 1 and 0;"), 1, 0, 1, 1);
        game(Check.of(HEAD + OPENS + MOTIF), 1, 0, 1, 1);
        game(Check.of(HEAD + "motif worth 0 opens stranger;"), 0, -1, 0, 0);
        game(Check.of(HEAD + OPENS + "motif worth 0 stranger;join 0 to 1;"), 0, -1, 2, 0);
        game(Check.of(HEAD + OPENS + MOTIF + "motif worth 0 stranger;join 0 to 1;join 1 to 2;"), 0, -1, 2, 0);
        game(Check.of(HEAD + OPENS + MOTIF + "join 0 to 1;keeps 0 1;"), 1, 0, 1, 1);
        game(Check.of(HEAD + OPENS + MOTIF + "join 0 to 1;keeps 1 1;"), 0, -1, 2, 0);
        game(Check.of(HEAD + OPENS + "keeps 1 0;"), 0, -1, 0, 0);
    }

    private static void silences() {
        Edge.of("IV", "or is silent, as often as he may still");
        for (int n = 0; n <= 3; n++) {
            TaleCourt x = Check.of("court tellers 2 silent " + n + ";");
            for (int t = 0; t <= 2 * n; t++) {
                boolean isWon = t % 2 == 1;
                game(x, isWon ? 1 : 0, isWon ? 9 : -1, 2 * n - t, isWon ? 512 : 0);
                x.hush();
            }
        }
        // Behind 0 each is silent once; who is silent first leaves 0 to the other.
        game(Check.of("court tellers 2 silent 1;" + OPENS), 1, 0, 3, 1);
        game(Check.of("court tellers 2 silent 1;" + OPENS + "keeps 0 0;"), 1, 0, 3, 513);
        for (int n = 0; n <= 9; n++) {
            for (int times = 0; times <= 3; times++) {
                String[] motifs = new String[n];
                Arrays.fill(motifs, "0");
                allAlike(Check.allJoined("court tellers 2 silent " + times + ";", motifs), n, times);
            }
        }
        // As many turns as a game can have.
        TaleCourt x = Check.allJoined("court tellers 2 silent 3;", "0", "0", "0", "0", "0", "0", "0", "0", "0");
        game(x, 1, 0, 15, 511);
        for (int t = 0; t < 6; t++) {
            x.hush();
        }
        game(x, 1, 0, 9, 511);
    }

    /** Motifs that are all joined are alike: what counts is how many are left, and the silences of both. */
    private static void allAlike(TaleCourt x, int n, int times) {
        int turns = turns(n, times, times);
        int isWon = turns % 2;
        int byMotif = n > 0 && turns(n - 1, times, times) % 2 == 0 ? (1 << n) - 1 : 0;
        int bySilence = times > 0 && turns(n, times, times - 1) % 2 == 0 ? 512 : 0;
        game(x, isWon, isWon == 0 ? -1 : byMotif != 0 ? 0 : 9, turns, byMotif | bySilence);
        if (x.hush() > 0) {
            Check.due("wins() behind silence", x.wins(), turns(n, times, times - 1) % 2);
            Check.due("lasts() behind silence", x.lasts(), turns(n, times, times - 1));
        }
        if (x.say(0) == 0) {
            Check.due("wins() behind 0", x.wins(), turns(n - 1, times == 0 ? 0 : times - 1, times) % 2);
        }
    }

    /** How long it lasts, with so many motifs, silences of whose turn it is, and of the other; odd if he wins. */
    private static int turns(int motifs, int his, int others) {
        int soonest = 99;
        int latest = 0;
        for (int way = 0; way < 2; way++) {
            if (way == 0 ? motifs > 0 : his > 0) {
                int more = 1 + (way == 0 ? turns(motifs - 1, others, his) : turns(motifs, others, his - 1));
                soonest = more % 2 == 1 ? Math.min(soonest, more) : soonest;
                latest = more % 2 == 0 ? Math.max(latest, more) : latest;
            }
        }
        return soonest < 99 ? soonest : latest;
    }

    private static void turnsCountOn() {
        Edge.of("IV", "Turns of the tale count on.");
        TaleCourt x = Check.of("court tellers 2 silent 1;motif worth 0 opens stranger;keeps 1 0;");
        // He can but be silent at turn 0, and the other tells 0 at turn 1.
        game(x, 0, -1, 2, 0);
        x.hush();
        game(x, 1, 0, 1, 513);
        x.hush();
        game(x, 0, -1, 0, 0);
        x = Check.of("court tellers 2 silent 1;" + OPENS + "motif worth 0 stranger;join 0 to 1;keeps 0 0;");
        x.hush();
        x.hush();
        x.say(0);
        Check.due("whose()", x.whose(), 1);
        game(x, 1, 1, 1, 2);
    }

    private static void noGame(String name, String words) {
        Edge.of(name, words);
        for (int tellers = 1; tellers <= 3; tellers += 2) {
            TaleCourt x = Check.of("court tellers " + tellers + " silent 1;" + OPENS);
            Check.due("call of " + tellers, call(name, x), -9);
        }
        Check.due("call of no court", call(name, NO_COURT), -2);
    }

    private static int call(String name, TaleCourt x) {
        switch (name) {
            case "40": return x.move();
            case "41": return x.lasts();
            case "42": return x.good();
            case "43": return x.kept(0, 0);
            default: return x.trade();
        }
    }

    private static void wins() {
        Edge.of("39", "GAME (IV): whether whose turn it is wins: 1, 0.");
        TaleCourt x = Check.of(HEAD + FORK);
        Check.due("wins() of 0", x.wins(), 0);
        x.say(0);
        Check.due("wins() of 1", x.wins(), 1);
        x.say(1);
        Check.due("wins() of 0", x.wins(), 1);
        Check.due("length() stays", x.length(), 2);
        Edge.of("39", "-9: there are not two TELLERS");
        Check.due("wins() of one", Check.of("court tellers 1 silent 0;" + OPENS).wins(), -9);
        Check.due("wins() of three", Check.of("court tellers 3 silent 0;" + OPENS).wins(), -9);
        Edge.of("39", "-2: there is no COURT");
        Check.due("wins()", NO_COURT.wins(), -2);
    }

    private static void move() {
        Edge.of("40", "The first MOTIF by which he wins (9: by silence)");
        Check.due("move()", Check.of(HEAD + TWO_WAYS).move(), 0);
        TaleCourt x = Check.of(HEAD + OPENS + OPENS + MOTIF + "join 0 to 2;");
        Check.due("move(), 0 does not win", x.move(), 1);
        Check.due("move(), a motif ahead of silence", Check.of("court tellers 2 silent 1;" + OPENS + "keeps 0 0;").move(), 0);
        x = Check.of("court tellers 2 silent 1;");
        x.hush();
        Check.due("move(), silence", x.move(), 9);
        x = Check.of("court tellers 2 silent 0;" + MOTIF.repeat(8) + OPENS);
        Check.due("move(), the last motif", x.move(), 8);
        Edge.of("40", "NONE: by none");
        Check.due("move()", Check.of(HEAD + FORK).move(), -1);
        Check.due("move(), none may be told", Check.of(HEAD).move(), -1);
        noGame("40", "-9, -2 likewise");
    }

    private static void lasts() {
        Edge.of("41", "How many turns there are till one has lost (who wins as soon, who loses as late as he can).");
        Check.due("lasts() of none", Check.of(HEAD).lasts(), 0);
        Check.due("lasts(), as soon", Check.of(HEAD + TWO_WAYS).lasts(), 1);
        // 0 goes on by 2 and 3, 1 has won at once: the sooner way is not the first.
        Check.due("lasts(), as soon", Check.of(HEAD + OPENS + OPENS + MOTIF + MOTIF + "join 0 to 2;join 2 to 3;").lasts(), 1);
        // Behind 0 he has lost in two turns, behind 1 in four.
        String late = OPENS + OPENS + MOTIF.repeat(4) + "join 0 to 2;join 1 to 3;join 3 to 4;join 4 to 5;";
        Check.due("lasts(), as late", Check.of(HEAD + late).lasts(), 4);
        Check.due("wins(), lost", Check.of(HEAD + late).wins(), 0);
        noGame("41", "-9, -2 likewise");
    }

    private static void good() {
        Edge.of("42", "MOTIFS by which he wins, as bits (512: by silence, too).");
        Check.due("good()", Check.of(HEAD + TWO_WAYS).good(), 3);
        Check.due("good(), all lose", Check.of(HEAD + FORK).good(), 0);
        Check.due("good() of none", Check.of(HEAD).good(), 0);
        TaleCourt x = Check.of("court tellers 2 silent 1;" + OPENS + "keeps 0 0;");
        Check.due("good(), silence too", x.good(), 513);
        x = Check.of("court tellers 2 silent 2;");
        x.hush();
        Check.due("good(), silence alone", x.good(), 512);
        Check.due("good() of nine", Check.of(HEAD + OPENS.repeat(9)).good(), 511);
        noGame("42", "-9, -2 likewise");
    }

    private static void kept() {
        Edge.of("43", "Whether he would win, if a MOTIF were kept by a TELLER (NONE: by nobody): 1, 0.");
        TaleCourt x = Check.of(HEAD + chain(2));
        int[][] due = {{0, 0, 0}, {0, 1, 0}};
        for (int m = 0; m < 2; m++) {
            for (int teller = -1; teller < 2; teller++) {
                Check.due("kept(" + m + ", " + teller + ")", x.kept(m, teller), due[m][teller + 1]);
                Check.due("motif(, 6) stays", x.motif(m, 6), -1);
                Check.due("wins() stays", x.wins(), 0);
            }
        }
        x.keeps(1, 0);
        Check.due("wins()", x.wins(), 1);
        Check.due("kept(1, -1)", x.kept(1, -1), 0);
        Check.due("kept(1, 1)", x.kept(1, 1), 0);
        Check.due("kept(0, 1)", x.kept(0, 1), 0);
        Check.due("motif(1, 6) stays", x.motif(1, 6), 0);
        Check.due("wins() stays", x.wins(), 1);
        x.say(0);
        Check.due("kept(1, -1), of him whose turn it is", x.kept(1, -1), 1);
        Edge.of("43", "-9, -2 likewise, there are none such");
        int[] motifs = {2, 9, -1, 32, Integer.MIN_VALUE, Integer.MAX_VALUE};
        for (int m : motifs) {
            Check.due("kept(" + m + ", 0)", x.kept(m, 0), -2);
        }
        int[] tellers = {2, 3, -2, Integer.MIN_VALUE, Integer.MAX_VALUE};
        for (int teller : tellers) {
            Check.due("kept(0, " + teller + ")", x.kept(0, teller), -2);
        }
        noGame("43", "-9, -2 likewise");
    }

    private static void trade() {
        Edge.of("44", "TRADE: the first two MOTIFS kept by unlike TELLERS (10 times the lesser and the other) by whose change"
            + " of keepers he who loses now wins.");
        // 0 and 1 are the other's: a change with 2, which is his own, gives him an opening.
        TaleCourt x = Check.of(HEAD + OPENS + OPENS + MOTIF + "keeps 1 0;keeps 1 1;keeps 0 2;");
        Check.due("trade()", x.trade(), 2);
        Check.due("keepers stay", x.motif(0, 6) * 100 + x.motif(1, 6) * 10 + x.motif(2, 6), 110);
        x = Check.of(HEAD + MOTIF + OPENS + MOTIF + "keeps 1 0;keeps 1 1;keeps 0 2;");
        Check.due("trade(), 0 is of no use", x.trade(), 12);
        x = Check.of(HEAD + OPENS + MOTIF + MOTIF + "keeps 1 0;keeps 0 2;");
        Check.due("trade(), 1 is nobody's", x.trade(), 2);
        x = Check.of(HEAD + MOTIF.repeat(7) + OPENS + MOTIF + "keeps 1 7;keeps 0 8;");
        Check.due("trade()", x.trade(), 78);
        x = Check.of(HEAD + MOTIF + OPENS + "keeps 0 0;keeps 1 1;");
        Check.due("trade(), the lesser is his", x.trade(), 1);
        Edge.of("44", "NONE: there are none, he wins now");
        Check.due("trade(), he wins now and then", Check.of(HEAD + OPENS + OPENS + "keeps 0 0;keeps 1 1;").trade(), -1);
        x.keeps(1, 0);
        x.keeps(0, 1);
        Check.due("trade(), he wins now", x.trade(), -1);
        x.keeps(1, 1);
        Check.due("trade(), both of one", x.trade(), -1);
        x.keeps(0, -1);
        Check.due("trade(), one of nobody", x.trade(), -1);
        x = Check.of(HEAD + OPENS + MOTIF + "join 0 to 1;keeps 1 0;keeps 0 1;");
        x.keeps(0, 0);
        x.keeps(1, 1);
        Check.due("trade(), he loses then, too", x.trade(), -1);
        Check.due("trade() of no motifs", Check.of(HEAD).trade(), -1);
        noGame("44", "-9, -2 likewise");
    }

    private static void blunder() {
        Edge.of("48", "BLUNDER: the first turn ahead of which the TELLER whose it was could win the GAME, and behind it cannot"
            + " (its other one wins)");
        TaleCourt x = Check.of(HEAD + OPENS + OPENS + MOTIF + "join 1 to 2;");
        x.say(1);
        Check.due("blunder(), turn 0", x.blunder(), 0);
        x.say(2);
        Check.due("blunder(), still", x.blunder(), 0);
        x = Check.of(HEAD + FORK);
        x.say(0);
        x.say(1);
        Check.due("blunder(), turn 1", x.blunder(), 1);
        x.say(2);
        Check.due("blunder()", x.blunder(), 1);
        Check.due("length() stays", x.length(), 3);
        x = Check.of("court tellers 2 silent 1;" + OPENS);
        x.hush();
        Check.due("blunder(), by silence", x.blunder(), 0);
        x.hush();
        Check.due("blunder(), the first of two", x.blunder(), 0);
        x = Check.of("court tellers 2 silent 1;" + OPENS);
        x.say(0);
        x.hush();
        x.hush();
        Check.due("blunder(), none of three", x.blunder(), -1);
        Edge.of("48", "NONE: none");
        Check.due("blunder() of no turns", Check.of(HEAD + FORK).blunder(), -1);
        x = Check.of(HEAD + FORK);
        x.say(0);
        Check.due("blunder(), nothing was to win", x.blunder(), -1);
        x.say(2);
        Check.due("blunder(), well told", x.blunder(), -1);
        Edge.of("48", "-9: there are not two TELLERS");
        Check.due("blunder() of one", Check.of("court tellers 1 silent 0;" + OPENS).blunder(), -9);
        Check.due("blunder() of three", Check.of("court tellers 3 silent 0;" + OPENS).blunder(), -9);
        Edge.of("48", "-2: there is no COURT");
        Check.due("blunder()", NO_COURT.blunder(), -2);
    }
}
