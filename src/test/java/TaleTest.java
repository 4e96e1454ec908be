/** Promises 13 to 27: a tale told turn by turn. */
public final class TaleTest {
    private static final String HEAD = "court tellers 2 silent 1;";

    public static void main(String[] args) {
        reasons();
        debts();
        doubleDebts();
        debtOfNone();
        silences();
        takingBack();
        pointsAndShares();
        withoutCourt();
        Check.finish();
    }

    private static void reasons() {
        TaleCourt x = Check.of(HEAD + "motif worth 1 opens;motif worth 1;motif worth 1;motif worth 1 stranger;"
            + "motif worth 1;motif worth 1 opens stranger;join 0 to 1;join 0 to 2;join 1 to 3;join 1 to 0;"
            + "clash 0 and 2;keeps 0 1;join 1 to 4;keeps 1 4;");
        Check.due("why(0)", x.why(0), 0);
        Check.due("why(1), it does not open", x.why(1), 3);
        Check.due("why(5), a stranger", x.why(5), 4);
        Check.due("why(6)", x.why(6), -2);
        Check.due("why(-1)", x.why(-1), -2);
        Check.due("may()", x.may(), 1);
        Check.due("say(1)", x.say(1), -5);
        Check.due("say(6)", x.say(6), -2);
        Check.due("say(-1)", x.say(-1), -2);
        Check.due("say(0)", x.say(0), 1);
        Check.due("why(0), told", x.why(0), 1);
        Check.due("why(2), it clashes", x.why(2), 2);
        Check.due("why(3), it does not join", x.why(3), 3);
        Check.due("why(1), kept", x.why(1), 6);
        Check.due("may()", x.may(), 0);
        Check.due("hush()", x.hush(), 2);
        Check.due("why(1)", x.why(1), 0);
        Check.due("say(1)", x.say(1), 1);
        Check.due("why(0), told, joins", x.why(0), 1);
        Check.due("why(3), at night", x.why(3), 0);
        Check.due("why(4)", x.why(4), 0);
        Check.due("may()", x.may(), 8 | 16);
        Check.due("say(3)", x.say(3), 1);
        Check.due("why(5)", x.why(5), 3);
        Check.due("length()", x.length(), 4);
        Check.due("told(1)", x.told(1), 9);
        Check.due("told(3)", x.told(3), 3);
        Check.due("told(4)", x.told(4), -1);
        Check.due("told(-1)", x.told(-1), -1);
    }

    private static void debts() {
        TaleCourt x = Check.of("court tellers 2 silent 3;motif worth 1 opens owes 2 within 2;motif worth 1;"
            + "motif worth 1;join 0 to 1;join 0 to 2;join 1 to 2;keeps 1 1;");
        Check.due("owed()", x.owed(), 0);
        Check.due("due(2)", x.due(2), -1);
        Check.due("say(0)", x.say(0), 1);
        Check.due("owed()", x.owed(), 4);
        Check.due("due(2)", x.due(2), 2);
        Check.due("due(1)", x.due(1), -1);
        Check.due("due(3)", x.due(3), -2);
        Check.due("due(-1)", x.due(-1), -2);
        Check.due("whole()", x.whole(), 0);
        Check.due("may()", x.may(), 6);
        Check.due("hush()", x.hush(), 2);
        Check.due("why(1), the last turn", x.why(1), 5);
        Check.due("why(2)", x.why(2), 0);
        Check.due("hush(), the last turn", x.hush(), -5);
        Check.due("may()", x.may(), 4);
        Check.due("say(1)", x.say(1), -5);
        Check.due("say(2)", x.say(2), 1);
        Check.due("owed()", x.owed(), 0);
        Check.due("due(2)", x.due(2), -1);
        Check.due("whole()", x.whole(), 1);
        Check.due("forbid(2, 1)", x.forbid(2, 1), 0);
        Check.due("whole(), forbidden", x.whole(), 0);
        Check.due("hush()", x.hush(), 4);
        Check.due("whole(), forbidden behind silence", x.whole(), 0);
        x.forbid(2, 0);
        Check.due("whole(), behind silence", x.whole(), 1);
        // What is owed was told ahead of it: paid.
        x = Check.of("court tellers 1 silent 0;motif worth 1 opens;motif worth 1 owes 0 within 1;join 0 to 1;");
        x.say(0);
        x.say(1);
        Check.due("owed()", x.owed(), 0);
        Check.due("due(0)", x.due(0), -1);
        Check.due("whole()", x.whole(), 1);
    }

    private static void doubleDebts() {
        // The earlier of two turns counts, and comes back when the later debt is taken back.
        String joins = "join 0 to 1;join 1 to 2;join 2 to 3;join 1 to 3;join 2 to 4;";
        TaleCourt x = Check.of("court tellers 1 silent 3;motif worth 1 opens owes 3 within 9;"
            + "motif worth 1 owes 3 within 3;motif worth 1 owes 4 within 2;motif worth 1;motif worth 1;" + joins);
        x.say(0);
        Check.due("due(3)", x.due(3), 9);
        x.say(1);
        Check.due("due(3)", x.due(3), 4);
        x.unsay();
        Check.due("due(3)", x.due(3), 9);
        x.say(1);
        x.say(2);
        Check.due("owed()", x.owed(), 8 | 16);
        Check.due("due(3)", x.due(3), 4);
        Check.due("due(4)", x.due(4), 4);
        Check.due("may()", x.may(), 8 | 16);
        Check.due("hush()", x.hush(), 4);
        Check.due("why(3), another is due", x.why(3), 5);
        Check.due("why(4), another is due", x.why(4), 5);
        Check.due("may()", x.may(), 0);
        Check.due("hush()", x.hush(), -5);
        // The earlier debt has the earlier turn.
        x = Check.of("court tellers 1 silent 3;motif worth 1 opens owes 3 within 3;"
            + "motif worth 1 owes 3 within 9;motif worth 1;motif worth 1;" + "join 0 to 1;");
        x.say(0);
        x.say(1);
        Check.due("due(3)", x.due(3), 3);
    }

    private static void debtOfNone() {
        TaleCourt x = Check.of("court tellers 1 silent 3;motif worth 1 opens owes 8 within 2;motif worth 1;join 0 to 1;");
        x.say(0);
        Check.due("owed()", x.owed(), 256);
        Check.due("due(8)", x.due(8), -2);
        Check.due("why(1)", x.why(1), 0);
        x.hush();
        Check.due("why(1)", x.why(1), 5);
        Check.due("wholes()", x.wholes(), 0);
    }

    private static void silences() {
        TaleCourt x = Check.of("court tellers 3 silent 1;motif worth 1 opens;");
        Check.due("left(0)", x.left(0), 1);
        Check.due("left(3)", x.left(3), -2);
        Check.due("left(-1)", x.left(-1), -2);
        Check.due("whose()", x.whose(), 0);
        Check.due("hush()", x.hush(), 1);
        Check.due("whose()", x.whose(), 1);
        Check.due("left(0)", x.left(0), 0);
        Check.due("left(1)", x.left(1), 1);
        Check.due("hush()", x.hush(), 2);
        Check.due("hush()", x.hush(), 3);
        Check.due("whose()", x.whose(), 0);
        Check.due("hush(), not any more", x.hush(), -5);
        Check.due("length()", x.length(), 3);
        Check.due("whole()", x.whole(), 0);
        Check.due("say(0)", x.say(0), 1);
        Check.due("whole()", x.whole(), 1);
        Check.due("hush()", x.hush(), -5);
        x = Check.of("court tellers 3 silent 3;");
        for (int i = 1; i <= 9; i++) {
            Check.due("hush()", x.hush(), i);
        }
        Check.due("hush(), not any more", x.hush(), -5);
        x = Check.of("court tellers 1 silent 0;");
        Check.due("hush(), never", x.hush(), -5);
    }

    private static void takingBack() {
        TaleCourt x = Check.of(HEAD + "motif worth 2 opens owes 1 within 1;motif worth 3;motif worth 4;"
            + "join 0 to 1;join 1 to 2;clash 1 and 2;");
        Check.due("unsay()", x.unsay(), -5);
        Check.due("anew()", x.anew(), 0);
        Check.due("hush()", x.hush(), 1);
        Check.due("say(0)", x.say(0), 2);
        Check.due("say(1)", x.say(1), 3);
        Check.due("why(2)", x.why(2), 2);
        Check.due("unsay()", x.unsay(), 2);
        Check.due("why(2)", x.why(2), 3);
        Check.due("owed()", x.owed(), 2);
        Check.due("points()", x.points(), 2);
        Check.due("unsay()", x.unsay(), 1);
        Check.due("owed()", x.owed(), 0);
        Check.due("left(0)", x.left(0), 0);
        Check.due("unsay()", x.unsay(), 0);
        Check.due("left(0)", x.left(0), 1);
        Check.due("unsay()", x.unsay(), -5);
        x.hush();
        x.say(0);
        Check.due("anew()", x.anew(), 2);
        Check.due("length()", x.length(), 0);
        Check.due("left(0)", x.left(0), 1);
        Check.due("points()", x.points(), 0);
        Check.due("owed()", x.owed(), 0);
        Check.due("why(0)", x.why(0), 0);
        Check.due("anew()", x.anew(), 0);
    }

    private static void pointsAndShares() {
        TaleCourt x = Check.of(HEAD + "motif worth 2 opens;motif worth 9 song;motif worth 5;join 0 to 1;join 1 to 2;");
        Check.due("points()", x.points(), 0);
        Check.due("share(0)", x.share(0), 0);
        Check.due("say(0)", x.say(0), 2);
        Check.due("say(1), a song", x.say(1), 27);
        Check.due("say(2)", x.say(2), 5);
        Check.due("points()", x.points(), 34);
        Check.due("share(0)", x.share(0), 7);
        Check.due("share(1)", x.share(1), 27);
        Check.due("share(2)", x.share(2), -2);
        Check.due("share(-1)", x.share(-1), -2);
    }

    private static void withoutCourt() {
        TaleCourt x = new TaleCourt();
        Check.due("say(0)", x.say(0), -2);
        Check.due("hush()", x.hush(), -2);
        Check.due("unsay()", x.unsay(), -2);
        Check.due("anew()", x.anew(), -2);
        Check.due("told(0)", x.told(0), -2);
        Check.due("length()", x.length(), -2);
        Check.due("whose()", x.whose(), -2);
        Check.due("may()", x.may(), -2);
        Check.due("why(0)", x.why(0), -2);
        Check.due("owed()", x.owed(), -2);
        Check.due("due(0)", x.due(0), -2);
        Check.due("whole()", x.whole(), -2);
        Check.due("points()", x.points(), -2);
        Check.due("share(0)", x.share(0), -2);
        Check.due("left(0)", x.left(0), -2);
    }
}
