/** Promises 39 to 44 and 48: the game of two. */
public final class GameTest {
    public static void main(String[] args) {
        emptyGames();
        chainGame();
        owedAside();
        keepers();
        trades();
        blunders();
        widest();
        wrongInputs();
        Check.finish();
    }

    private static void game(TaleCourt x, int wins, int move, int lasts, int good) {
        Check.due("wins()", x.wins(), wins);
        Check.due("move()", x.move(), move);
        Check.due("lasts()", x.lasts(), lasts);
        Check.due("good()", x.good(), good);
    }

    private static void emptyGames() {
        game(Check.of("court tellers 2 silent 0;"), 0, -1, 0, 0);
        // Each is silent as often: the first runs out first.
        TaleCourt x = Check.of("court tellers 2 silent 3;");
        game(x, 0, -1, 6, 0);
        x.hush();
        game(x, 1, 9, 5, 512);
    }

    /** 0 opens, then 1 or 2; 1 goes on to 2. */
    private static void chainGame() {
        String text = "motif worth 0 opens;motif worth 0;motif worth 0;join 0 to 1;join 0 to 2;join 1 to 2;";
        TaleCourt x = Check.of("court tellers 2 silent 0;" + text);
        // Behind 0 the other tells 2 and has won.
        game(x, 0, -1, 2, 0);
        x.say(0);
        game(x, 1, 2, 1, 4);
        x.say(1);
        game(x, 1, 2, 1, 4);
        x.say(2);
        game(x, 0, -1, 0, 0);
        x = Check.of("court tellers 2 silent 1;" + text);
        x.say(0);
        game(x, 1, 2, 3, 4);
    }

    private static void owedAside() {
        TaleCourt x = Check.of("court tellers 2 silent 0;motif worth 0 opens owes 2 within 1;motif worth 0;"
            + "motif worth 0;join 0 to 1;forbid 0;forbid 1;");
        x.say(0);
        Check.due("may()", x.may(), 0);
        game(x, 1, 1, 1, 2);
        x = Check.of("court tellers 2 silent 1;motif worth 0 opens owes 2 within 1;");
        x.say(0);
        Check.due("hush()", x.hush(), -5);
        game(x, 0, -1, 2, 0);
    }

    private static void keepers() {
        TaleCourt x = Check.of("court tellers 2 silent 0;motif worth 0 opens;motif worth 0;join 0 to 1;");
        game(x, 0, -1, 2, 0);
        Check.due("kept(0, -1)", x.kept(0, -1), 0);
        Check.due("kept(0, 0)", x.kept(0, 0), 0);
        Check.due("kept(0, 1)", x.kept(0, 1), 0);
        Check.due("kept(1, 0)", x.kept(1, 0), 1);
        Check.due("kept(1, 1)", x.kept(1, 1), 0);
        Check.due("motif(1, 6) stays", x.motif(1, 6), -1);
        Check.due("wins() as it was", x.wins(), 0);
        x.keeps(1, 0);
        game(x, 1, 0, 1, 1);
        Check.due("kept(1, -1)", x.kept(1, -1), 0);
        Check.due("motif(1, 6) stays", x.motif(1, 6), 0);
    }

    private static void trades() {
        TaleCourt x = Check.of("court tellers 2 silent 0;motif worth 0 opens;motif worth 0 opens;motif worth 0;"
            + "keeps 1 0;keeps 1 1;keeps 0 2;");
        // He keeps 2, which never comes, and could open with 0 or 1.
        Check.due("wins()", x.wins(), 0);
        Check.due("trade()", x.trade(), 2);
        x.keeps(0, -1);
        Check.due("trade(), he wins now", x.trade(), -1);
        x.keeps(0, 1);
        x.keeps(2, 1);
        Check.due("trade(), all kept by one", x.trade(), -1);
        x.keeps(2, 0);
        x.keeps(0, -1);
        x.keeps(1, 1);
        Check.due("motif(2, 6)", x.motif(2, 6), 0);
        x = Check.of("court tellers 2 silent 0;motif worth 0;motif worth 0 opens;motif worth 0;"
            + "keeps 1 0;keeps 1 1;keeps 0 2;");
        Check.due("trade()", x.trade(), 12);
        Check.due("keepers stay", x.motif(1, 6) * 10 + x.motif(2, 6), 10);
    }

    private static void blunders() {
        TaleCourt x = Check.of("court tellers 2 silent 0;motif worth 0 opens;motif worth 0;motif worth 0;"
            + "join 0 to 1;join 0 to 2;join 1 to 2;");
        Check.due("blunder() of none", x.blunder(), -1);
        x.say(0);
        Check.due("blunder(), nothing was to win", x.blunder(), -1);
        x.say(2);
        Check.due("blunder(), well told", x.blunder(), -1);
        x.unsay();
        x.say(1);
        Check.due("blunder()", x.blunder(), 1);
        x.say(2);
        Check.due("blunder(), the first", x.blunder(), 1);
    }

    /** As many turns as a game can have. */
    private static void widest() {
        StringBuilder text = new StringBuilder("court tellers 2 silent 3;" + "motif worth 0 opens;".repeat(9));
        for (int a = 0; a < 9; a++) {
            for (int b = 0; b < 9; b++) {
                text.append(a == b ? "" : "join " + a + " to " + b + ";");
            }
        }
        TaleCourt x = Check.of(text.toString());
        // Both tell as long as they can, five motifs to four, then three silences each.
        game(x, 1, 0, 15, 511);
        // Who is silent too early lets the other tell five: eight turns of his against six.
        x.hush();
        game(x, 1, 0, 13, 511);
        Check.due("blunder()", x.blunder(), 0);
    }

    private static void wrongInputs() {
        TaleCourt none = new TaleCourt();
        Check.due("blunder()", none.blunder(), -2);
        Check.due("kept(0, 0)", none.kept(0, 0), -2);
        Check.due("trade()", none.trade(), -2);
        game(none, -2, -2, -2, -2);
        for (int tellers = 1; tellers <= 3; tellers += 2) {
            TaleCourt x = Check.of("court tellers " + tellers + " silent 1;motif worth 0 opens;");
            game(x, -9, -9, -9, -9);
            Check.due("blunder()", x.blunder(), -9);
            Check.due("kept(0, 0)", x.kept(0, 0), -9);
            Check.due("kept(1, 0), no such motif either", x.kept(1, 0), -9);
            Check.due("trade()", x.trade(), -9);
        }
        TaleCourt two = Check.of("court tellers 2 silent 1;motif worth 0 opens;");
        Check.due("kept(1, 0)", two.kept(1, 0), -2);
        Check.due("kept(-1, 0)", two.kept(-1, 0), -2);
        Check.due("kept(0, 2)", two.kept(0, 2), -2);
        Check.due("kept(0, -2)", two.kept(0, -2), -2);
    }
}
