/** Promises 52 to 60 and 67 to 69: rows of numbers, and what is judged by them. */
public final class RowTest {
    private static final String TEXT = "court tellers 2 silent 1;motif worth 1 opens owes 2 within 2;motif worth 2;"
        + "motif worth 3 song;motif worth 4 stranger;join 0 to 1;join 1 to 2;join 0 to 2;join 2 to 3;join 1 to 3;"
        + "listener loves 5 0 1;listener loves 9;listener loves 0 3;";

    public static void main(String[] args) {
        slots();
        widths();
        pasting();
        judging();
        lying();
        fitting();
        liars();
        voting();
        wrongInputs();
        Check.finish();
    }

    private static void slots() {
        TaleCourt x = new TaleCourt();
        Check.due("row(4, 0, 1)", x.row(4, 0, 1), -2);
        Check.due("row(-1, 0, 1)", x.row(-1, 0, 1), -2);
        Check.due("row(0, 4, 1)", x.row(0, 4, 1), -2);
        Check.due("row(0, -1, 1)", x.row(0, -1, 1), -2);
        Check.due("row(0, 0, 61)", x.row(0, 0, 61), -2);
        Check.due("row(4, 0, -1)", x.row(4, 0, -1), -2);
        Check.due("row(0, 4, -1)", x.row(0, 4, -1), -2);
        Check.due("row(0, 0, -1)", x.row(0, 0, -1), -3);
        Check.due("row(0, 0, min)", x.row(0, 0, Integer.MIN_VALUE), -3);
        Check.due("write(0, 0, 1)", x.write(0, 0, 1), -6);
        Check.due("count(9)", x.count(9), 0);
        Check.due("row(0, 0, 60)", x.row(0, 0, 60), 0);
        Check.due("write(0, 59, 1)", x.write(0, 59, 1), 0);
        Check.due("write(0, 60, 1)", x.write(0, 60, 1), -7);
        Check.due("write(0, -1, 1)", x.write(0, -1, 1), -7);
        Check.due("write(4, 0, 1)", x.write(4, 0, 1), -2);
        Check.due("write(-1, 0, 1)", x.write(-1, 0, 1), -2);
        Check.due("row(0, 0, -1), it stays", x.row(0, 0, -1), -3);
        Check.due("write(0, 59, 1)", x.write(0, 59, 1), 0);
        Check.due("row(0, 0, 0)", x.row(0, 0, 0), 0);
        Check.due("write(0, 0, 1)", x.write(0, 0, 1), -7);
        Check.due("count(9), an empty row", x.count(9), 1);
    }

    /** Whether a number is cut to its width is seen by what it is worth. */
    private static void widths() {
        TaleCourt x = Check.of("court tellers 1 silent 0;motif worth 7;motif worth 5;listener loves 0;");
        long[] tops = {1L << 8, 1L << 16, 1L << 32};
        for (int width = 0; width < 4; width++) {
            for (int k = 0; k < 3; k++) {
                Check.due("row()", x.row(1, width, 1), 0);
                Check.due("taste() of 0", x.taste(0, 1), 7);
                Check.due("write()", x.write(1, 0, tops[k] + 1), 0);
                Check.due("taste() of width " + width + ", " + tops[k], x.taste(0, 1), k >= width ? 5 : -1000);
            }
            Check.due("write()", x.write(1, 0, -1), 0);
            Check.due("taste() of -1", x.taste(0, 1), -1000);
        }
        Check.due("row(), anew", x.row(1, 3, 1), 0);
        Check.due("taste() of 0", x.taste(0, 1), 7);
    }

    private static void pasting() {
        TaleCourt x = Check.of("court tellers 1 silent 0;motif worth 1;motif worth 9;listener loves 0;");
        Check.due("paste(4, ..)", x.paste(4, 0, 0, 0, 0), -2);
        Check.due("paste(.., 4, ..)", x.paste(0, 0, 4, 0, 0), -2);
        Check.due("paste(-1, ..)", x.paste(-1, 0, 0, 0, 0), -2);
        Check.due("paste of nothing", x.paste(0, 0, 1, 0, 0), -6);
        Check.row(x, 0, 1, 1, 0, 0);
        Check.due("paste to nothing", x.paste(0, 0, 1, 0, 0), -6);
        x.row(1, 2, 4);
        Check.due("paste of another width, beyond", x.paste(0, 0, 1, 0, 9), -8);
        Check.row(x, 1, 0, 0, 0);
        Check.due("paste beyond the first", x.paste(0, 2, 1, 0, 3), -7);
        Check.due("paste beyond the other", x.paste(0, 0, 1, 0, 4), -7);
        Check.due("paste beyond the other", x.paste(0, 0, 1, 2, 2), -7);
        Check.due("paste of a place below 0", x.paste(0, -1, 1, 0, 1), -7);
        Check.due("paste to a place below 0", x.paste(0, 0, 1, -1, 1), -7);
        Check.due("paste of n below 0", x.paste(0, 0, 1, 0, -1), -7);
        Check.due("paste of most", x.paste(0, Integer.MAX_VALUE, 1, 0, Integer.MAX_VALUE), -7);
        Check.due("paste of least", x.paste(0, 0, 1, 0, Integer.MIN_VALUE), -7);
        Check.due("nothing happened", x.taste(0, 1), 3);
        Check.due("paste of none", x.paste(0, 4, 1, 3, 0), 0);
        Check.due("paste of none, beyond", x.paste(0, 61, 1, Integer.MAX_VALUE, 0), 0);
        Check.due("paste of none, below 0", x.paste(0, -1, 1, 0, 0), -7);
        Check.due("paste", x.paste(0, 1, 1, 0, 3), 0);
        Check.due("one of 1, two of 0", x.taste(0, 1), 11);
        Check.due("paste to its own, ahead", x.paste(0, 0, 0, 1, 3), 0);
        Check.due("three of 1, as they were", x.taste(0, 0), 28);
        Check.row(x, 0, 0, 0, 1, 1);
        Check.due("paste to its own, back", x.paste(0, 1, 0, 0, 3), 0);
        Check.due("0, 1, 1, 1", x.taste(0, 0), 28);
    }

    private static void judge(TaleCourt x, int turns, int reason, long... numbers) {
        Check.row(x, 0, numbers);
        Check.due("judge()", x.judge(0), turns);
        Check.due("verdict()", x.verdict(0), reason);
    }

    private static void judging() {
        TaleCourt x = Check.of(TEXT);
        judge(x, 0, 0);
        judge(x, 3, 0, 0, 1, 2);
        judge(x, 4, 0, 0, 1, 2, 3);
        judge(x, 4, 1, 0, 1, 2, 3, 0);
        judge(x, 0, 3, 1);
        judge(x, 2, 4, 0, 1, 3);
        judge(x, 0, 9, 4);
        judge(x, 0, 9, -1);
        judge(x, 0, 9, 8);
        judge(x, 0, 9, 10);
        judge(x, 0, 9, 1L << 32);
        judge(x, 2, 9, 0, 9, 9);
        judge(x, 3, 0, 0, 9, 2);
        judge(x, 2, 5, 0, 9, 1);
        judge(x, 2, 9, 9, 9, 9);
        judge(x, 2, 0, 9, 9);
        x.keeps(1, 0);
        judge(x, 1, 6, 0, 1);
        x.keeps(1, -1);
        x.say(0);
        judge(x, 1, 1, 0, 0);
        Check.due("the tale stays", x.length(), 1);
        x = Check.of("court tellers 1 silent 0;motif worth 1 opens;motif worth 1;join 0 to 1;clash 0 and 1;");
        judge(x, 1, 2, 0, 1);
        judge(x, 0, 9, 9);
    }

    private static void lies(TaleCourt x, int fewest, int orders, long... numbers) {
        Check.row(x, 0, numbers);
        Check.due("lies()", x.lies(0), fewest);
        Check.due("orders()", x.orders(0), orders);
    }

    private static void lying() {
        TaleCourt x = Check.of(TEXT);
        lies(x, 0, 24);
        lies(x, 0, 12, 0, 1);
        lies(x, 1, 24, 0, 1, 1, 0);
        lies(x, 1, 12, 0, 1, 1, 0, 0, 1);
        lies(x, 1, 12, 0, 1, 1, 2, 2, 0);
        lies(x, 0, 1, 0, 1, 1, 2, 2, 3);
        lies(x, -2, -2, 0);
        lies(x, -2, -2, 0, 1, 2);
        lies(x, -2, -2, 0, 0);
        lies(x, -2, -2, 0, 4);
        lies(x, -2, -2, 9, 0);
        lies(x, -2, -2, -1, 0);
        lies(x, -2, -2, 0, 1L << 32 | 1);
        lies(Check.of("court tellers 1 silent 0;"), 0, 1);
    }

    private static void fitting() {
        TaleCourt x = Check.of(TEXT);
        // Whole: 02, 012, 0123, 023.
        Check.due("wholes()", x.wholes(), 3);
        Check.row(x, 0);
        Check.due("fits() of none", x.fits(0), 3);
        Check.row(x, 0, 0, 1);
        Check.due("fits()", x.fits(0), 2);
        Check.row(x, 0, 1, 0);
        Check.due("fits()", x.fits(0), 0);
        Check.row(x, 0, 0, 1, 2, 3);
        Check.due("fits()", x.fits(0), 1);
        Check.row(x, 0, 0, 0);
        Check.due("fits()", x.fits(0), -2);
        x.say(0);
        Check.row(x, 0, 1, 0);
        Check.due("fits(), 0 told ahead", x.fits(0), 0);
        Check.row(x, 0, 0, 2);
        Check.due("fits()", x.fits(0), 3);
        x.say(2);
        Check.row(x, 0, 0, 1);
        Check.due("fits()", x.fits(0), 0);
        Check.row(x, 0, 2, 0);
        Check.due("fits(), both told", x.fits(0), 0);
    }

    private static void liars(TaleCourt x, int fewest, int who, long... numbers) {
        Check.row(x, 0, numbers);
        Check.due("liars()", x.liars(0), fewest);
        Check.due("who()", x.who(0), who);
    }

    private static void liars() {
        TaleCourt x = Check.of(TEXT);
        liars(x, 0, 0);
        liars(x, 0, 0, 0, 0, 1);
        liars(x, 1, 1, 0, 0, 1, 1, 1, 0);
        liars(x, 1, 2, 1, 0, 1, 1, 1, 0);
        liars(x, 1, 4, 0, 0, 1, 1, 1, 2, 2, 1, 0, 2, 2, 1);
        liars(x, 2, 3, 0, 0, 1, 1, 1, 0, 2, 0, 1, 0, 2, 3, 1, 3, 2, 0, 1, 2, 2, 2, 1);
        liars(x, -2, -2, 0, 0);
        liars(x, -2, -2, 0, 0, 1, 1);
        liars(x, -2, -2, 3, 0, 1);
        liars(x, -2, -2, -1, 0, 1);
        liars(x, -2, -2, 0, 1, 1);
        liars(x, -2, -2, 0, 1, 4);
        liars(x, -2, -2, 1L << 32, 1, 2);
        x = Check.of("court tellers 1 silent 0;" + "motif worth 0;".repeat(9) + "listener loves 0;".repeat(8));
        long[] all = new long[48];
        for (int l = 0; l < 8; l++) {
            all[6 * l] = l;
            all[6 * l + 1] = l;
            all[6 * l + 2] = l + 1;
            all[6 * l + 3] = l;
            all[6 * l + 4] = l + 1;
            all[6 * l + 5] = l;
        }
        liars(x, 8, 255, all);
    }

    private static void voting() {
        TaleCourt x = Check.of(TEXT);
        Check.row(x, 0, 0, 1);
        Check.row(x, 1, 2);
        Check.due("taste(0, 0)", x.taste(0, 0), 13);
        Check.due("taste(1, 0)", x.taste(1, 0), 3);
        Check.due("taste(0, 1)", x.taste(0, 1), 9);
        Check.due("votes(0, 1)", x.votes(0, 1), 1);
        Check.due("votes(1, 0)", x.votes(1, 0), 2);
        Check.due("votes(0, 0)", x.votes(0, 0), 0);
        Check.row(x, 0, 1, 1, 1);
        Check.due("taste(0, 0), one thrice", x.taste(0, 0), 21);
        x.row(2, 0, 0);
        Check.due("taste(0, 2), an empty row", x.taste(0, 2), 0);
        Check.due("votes(0, 2)", x.votes(0, 2), 3);
        Check.due("votes(2, 0)", x.votes(2, 0), 0);
        Check.due("votes(0, 3)", x.votes(0, 3), -6);
        Check.due("votes(3, 0)", x.votes(3, 0), -6);
        Check.row(x, 0, 4);
        Check.due("votes(0, 1), no motif", x.votes(0, 1), -2);
        Check.due("votes(1, 0), no motif", x.votes(1, 0), -2);
        Check.due("votes(0, 3), nothing ahead of no motif", x.votes(0, 3), -6);
        Check.due("votes(0, 4)", x.votes(0, 4), -2);
        Check.due("votes(-1, 3)", x.votes(-1, 3), -2);
        Check.due("taste(0, 0), no motif", x.taste(0, 0), -1000);
        Check.due("taste(3, 0)", x.taste(3, 0), -1000);
        Check.due("taste(-1, 0)", x.taste(-1, 0), -1000);
        Check.due("taste(0, 4)", x.taste(0, 4), -1000);
        Check.due("taste(3, 3)", x.taste(3, 3), -1000);
        Check.due("taste(0, 3)", x.taste(0, 3), -6000);
    }

    private static void wrongInputs() {
        TaleCourt none = new TaleCourt();
        TaleCourt x = Check.of(TEXT);
        none.row(0, 0, 0);
        for (int slot = -1; slot <= 4; slot += 5) {
            slotCalls(x, slot, -2);
        }
        slotCalls(x, 0, -6);
        slotCalls(none, 0, -2);
        slotCalls(none, 1, -2);
        Check.due("votes(0, 0)", none.votes(0, 0), -2);
        Check.due("taste(0, 0)", none.taste(0, 0), -1000);
    }

    private static void slotCalls(TaleCourt x, int slot, int due) {
        Check.due("judge()", x.judge(slot), due);
        Check.due("verdict()", x.verdict(slot), due);
        Check.due("lies()", x.lies(slot), due);
        Check.due("orders()", x.orders(slot), due);
        Check.due("fits()", x.fits(slot), due);
        Check.due("liars()", x.liars(slot), due);
        Check.due("who()", x.who(slot), due);
    }
}
