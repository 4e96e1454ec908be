/** Promises 28 to 38, 47, 49 to 51: what can come of a tale. */
public final class SurveyTest {
    public static void main(String[] args) {
        smallCourt();
        noWhole();
        noMotifs();
        widest();
        wrongInputs();
        withoutCourt();
        Check.finish();
    }

    /** Tales: 0, 01, 02, 012; 2 is a song, 1 owes it, no tale ends with 0. */
    private static void smallCourt() {
        TaleCourt x = Check.of("court tellers 2 silent 1;motif worth 1 opens;motif worth 2 owes 2 within 2;"
            + "motif worth 3 song;join 0 to 1;join 0 to 2;join 1 to 2;forbid 0;");
        Check.due("longest()", x.longest(), 3);
        int[] line = {0, 1, 2, -1};
        for (int i = 0; i < 4; i++) {
            Check.due("line()", x.line(i), line[i]);
        }
        Check.due("full()", x.full(), 3);
        int[] rows = {1, 1, 2, 1, 0};
        for (int n = 0; n < 5; n++) {
            Check.due("rows()", x.rows(n), rows[n]);
        }
        Check.due("best()", x.best(), 12);
        Check.due("tale(0)", x.tale(0), 0);
        Check.due("tale(2)", x.tale(2), 2);
        Check.due("tale(3)", x.tale(3), -1);
        Check.due("roof(0)", x.roof(0), 2);
        Check.due("roof(10)", x.roof(10), 2);
        Check.due("beam(10, 1)", x.beam(10, 1), 2);
        Check.due("beam(10, 2)", x.beam(10, 2), -1);
        Check.due("roof(11)", x.roof(11), 3);
        Check.due("beam(11, 1)", x.beam(11, 1), 1);
        Check.due("roof(12)", x.roof(12), 3);
        Check.due("roof(13)", x.roof(13), -1);
        Check.due("beam(13, 0)", x.beam(13, 0), -1);
        Check.due("wholes()", x.wholes(), 2);
        Check.due("ends(2)", x.ends(2), 2);
        Check.due("ends(0)", x.ends(0), 0);
        Check.due("around(2)", x.around(2), 2);
        Check.due("around(0)", x.around(0), 0);
        Check.due("always(0)", x.always(0), 5);
        Check.due("always(1)", x.always(1), 7);
        Check.due("lack(0)", x.lack(0), 2);
        Check.due("lack(1)", x.lack(1), 1);
        Check.due("crux()", x.crux(), 0);
        Check.due("cost(1)", x.cost(1), 2);
        Check.due("cost(2)", x.cost(2), -1);
        x.say(0);
        Check.due("longest(), 0 told", x.longest(), 2);
        Check.due("lack(0), 0 told", x.lack(0), 0);
        Check.due("cost(0), 0 told", x.cost(0), 0);
        Check.due("crux(), 0 told", x.crux(), 2);
        Check.due("best(), 0 told", x.best(), 12);
        Check.due("tale(0), 0 told", x.tale(0), 1);
        Check.due("always(0), 0 told", x.always(0), 5);
        x.say(2);
        Check.due("full(), as it is", x.full(), 0);
        Check.due("roof(10), as it is", x.roof(10), 0);
        Check.due("wholes(), as it is", x.wholes(), 1);
        Check.due("tale(0), as it is", x.tale(0), -1);
        Check.due("best(), as it is", x.best(), 10);
        Check.due("rows(0)", x.rows(0), 1);
        Check.due("crux(), all the same", x.crux(), 0);
        x.hush();
        Check.due("ends(2) behind silence", x.ends(2), 1);
        Check.due("around(2) behind silence", x.around(2), 1);
    }

    private static void noWhole() {
        TaleCourt x = Check.of("court tellers 1 silent 0;motif worth 1 opens owes 1 within 1;motif worth 1;");
        Check.due("longest()", x.longest(), 1);
        Check.due("full()", x.full(), -1);
        Check.due("best()", x.best(), -1);
        Check.due("tale(0)", x.tale(0), -1);
        Check.due("roof(0)", x.roof(0), -1);
        Check.due("wholes()", x.wholes(), 0);
        Check.due("always(0)", x.always(0), 0);
        Check.due("always(1)", x.always(1), 0);
        Check.due("cost(0)", x.cost(0), -1);
        Check.due("crux()", x.crux(), 0);
    }

    private static void noMotifs() {
        TaleCourt x = Check.of("court tellers 1 silent 0;");
        Check.due("longest()", x.longest(), 0);
        Check.due("line(0)", x.line(0), -1);
        Check.due("full()", x.full(), -1);
        Check.due("rows(0)", x.rows(0), 1);
        Check.due("rows(1)", x.rows(1), 0);
        Check.due("wholes()", x.wholes(), 0);
        Check.due("crux()", x.crux(), -1);
        Check.due("may()", x.may(), 0);
        Check.due("ends(0)", x.ends(0), -2);
    }

    /** Nine motifs, each open and joined on to each: all rows there can be. */
    private static void widest() {
        StringBuilder text = new StringBuilder("court tellers 1 silent 0;");
        for (int m = 0; m < 9; m++) {
            text.append("motif worth ").append(m + 1).append(" opens;");
        }
        for (int a = 0; a < 9; a++) {
            for (int b = 0; b < 9; b++) {
                text.append(a == b ? "" : "join " + a + " to " + b + ";");
            }
        }
        TaleCourt x = Check.of(text.toString());
        int[] rows = {1, 9, 72, 504, 3024, 15120, 60480, 181440, 362880, 362880};
        int sum = 0;
        for (int n = 0; n <= 9; n++) {
            Check.due("rows()", x.rows(n), rows[n]);
            sum += rows[n];
        }
        Check.due("wholes()", x.wholes(), sum - 1);
        Check.due("ends(4)", x.ends(4), (sum - 1) / 9);
        Check.due("longest()", x.longest(), 9);
        Check.due("line(8)", x.line(8), 8);
        Check.due("best()", x.best(), 45);
        Check.due("tale(0)", x.tale(0), 0);
        Check.due("roof(10)", x.roof(10), 2);
        Check.due("beam(10, 0)", x.beam(10, 0), 0);
        Check.due("beam(10, 1)", x.beam(10, 1), 8);
        Check.due("always(0)", x.always(0), 0);
        Check.due("always(1)", x.always(1), 511);
        Check.due("cost(8)", x.cost(8), 9);
        Check.due("crux()", x.crux(), 0);
    }

    private static void wrongInputs() {
        TaleCourt x = Check.of("court tellers 1 silent 0;motif worth 1 opens;");
        Check.due("line(-1)", x.line(-1), -1);
        Check.due("tale(-1)", x.tale(-1), -1);
        Check.due("beam(0, -1)", x.beam(0, -1), -1);
        Check.due("beam(-1, 0)", x.beam(-1, 0), -2);
        Check.due("roof(-1)", x.roof(-1), -2);
        Check.due("rows(-1)", x.rows(-1), -2);
        Check.due("rows(10)", x.rows(10), -2);
        Check.due("ends(1)", x.ends(1), -2);
        Check.due("ends(-1)", x.ends(-1), -2);
        Check.due("always(2)", x.always(2), -2);
        Check.due("always(-1)", x.always(-1), -2);
        Check.due("around(1)", x.around(1), -2);
        Check.due("lack(1)", x.lack(1), -2);
        Check.due("lack(-1)", x.lack(-1), -2);
        Check.due("cost(1)", x.cost(1), -2);
    }

    private static void withoutCourt() {
        TaleCourt x = new TaleCourt();
        Check.due("longest()", x.longest(), -2);
        Check.due("full()", x.full(), -2);
        Check.due("line(0)", x.line(0), -2);
        Check.due("best()", x.best(), -2);
        Check.due("tale(0)", x.tale(0), -2);
        Check.due("roof(0)", x.roof(0), -2);
        Check.due("beam(0, 0)", x.beam(0, 0), -2);
        Check.due("rows(0)", x.rows(0), -2);
        Check.due("wholes()", x.wholes(), -2);
        Check.due("ends(0)", x.ends(0), -2);
        Check.due("always(0)", x.always(0), -2);
        Check.due("around(0)", x.around(0), -2);
        Check.due("lack(0)", x.lack(0), -2);
        Check.due("crux()", x.crux(), -2);
        Check.due("cost(0)", x.cost(0), -2);
    }
}
