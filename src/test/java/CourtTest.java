/** Promises 6 to 12, 45, 46 and 64: what a court is, and what is changed in it. */
public final class CourtTest {
    private static final String TEXT = "court tellers 3 silent 2;"
        + "motif worth 3 opens;"
        + "motif worth 4 song owes 7 within 5;"
        + "motif worth 0 stranger;"
        + "motif worth 9 opens song stranger owes 0 within 9;"
        + "join 0 to 1;join 1 to 2;join 2 to 0;join 2 to 3;"
        + "clash 3 and 1;keeps 2 1;keeps 1 1;keeps 0 3;forbid 2;"
        + "listener loves 2 0 1;listener loves 0;";

    public static void main(String[] args) {
        motifs();
        joins();
        changes();
        withoutCourt();
        Check.finish();
    }

    private static void motifs() {
        TaleCourt x = Check.of(TEXT);
        int[][] due = {{3, 1, 0, 0, -1, 0, -1, 0}, {4, 0, 0, 1, 7, 5, 1, 0}, {0, 0, 1, 0, -1, 0, -1, 1},
            {9, 1, 1, 1, 0, 9, 0, 0}};
        for (int m = 0; m < 4; m++) {
            for (int what = 0; what < 8; what++) {
                Check.due("motif(" + m + ", " + what + ")", x.motif(m, what), due[m][what]);
            }
            Check.due("motif(, 8)", x.motif(m, 8), -2);
            Check.due("motif(, -1)", x.motif(m, -1), -2);
        }
        Check.due("motif(4, 0)", x.motif(4, 0), -2);
        Check.due("motif(-1, 0)", x.motif(-1, 0), -2);
        int[] counts = {4, 3, 2, 4, 1, 2, 16, 0, 0, 0, -1};
        for (int what = 0; what < counts.length; what++) {
            Check.due("count(" + what + ")", x.count(what), counts[what]);
        }
        Check.due("count(-1)", x.count(-1), -1);
        Check.tape(x, "court");
        x.row(3, 0, 0);
        x.say(0);
        Check.due("count(7)", x.count(7), 5);
        Check.due("count(8)", x.count(8), 1);
        Check.due("count(9)", x.count(9), 1);
    }

    private static void joins() {
        TaleCourt x = Check.of(TEXT);
        Check.due("joins(0, 1)", x.joins(0, 1), 1);
        Check.due("joins(1, 0)", x.joins(1, 0), 0);
        Check.due("joins(1, 1)", x.joins(1, 1), 0);
        Check.due("joins(4, 0)", x.joins(4, 0), -2);
        Check.due("joins(0, -1)", x.joins(0, -1), -2);
        Check.due("clash(1, 3)", x.clash(1, 3), 1);
        Check.due("clash(3, 1)", x.clash(3, 1), 1);
        Check.due("clash(3, 0)", x.clash(3, 0), 0);
        Check.due("clash(3, 4)", x.clash(3, 4), -2);
        Check.due("clash(-1, 3)", x.clash(-1, 3), -2);
        Check.due("behind(2)", x.behind(2), 1 | 8);
        Check.due("behind(3)", x.behind(3), 0);
        Check.due("behind(4)", x.behind(4), -2);
        Check.due("ahead(0)", x.ahead(0), 4);
        Check.due("ahead(3)", x.ahead(3), 4);
        Check.due("ahead(-1)", x.ahead(-1), -2);
        Check.due("comes(0)", x.comes(0), 15);
        Check.due("comes(3)", x.comes(3), 0);
        Check.due("comes(9)", x.comes(9), -2);
        Check.due("chain(0, 0)", x.chain(0, 0), 1);
        Check.due("chain(0, 3)", x.chain(0, 3), 4);
        Check.due("chain(3, 0)", x.chain(3, 0), -1);
        Check.due("chain(3, 4)", x.chain(3, 4), -2);
        Check.due("chain(-1, 0)", x.chain(-1, 0), -2);
        StringBuilder line = new StringBuilder("court tellers 1 silent 0;" + "motif worth 1;".repeat(9));
        for (int m = 8; m > 0; m--) {
            line.append("join ").append(m).append(" to ").append(m - 1).append(';');
        }
        x = Check.of(line.toString());
        Check.due("chain(8, 0)", x.chain(8, 0), 9);
        Check.due("chain(0, 8)", x.chain(0, 8), -1);
        Check.due("comes(8)", x.comes(8), 255);
        Check.due("comes(0)", x.comes(0), 0);
    }

    private static void changes() {
        TaleCourt x = Check.of(TEXT);
        Check.due("keeps(1, 2)", x.keeps(1, 2), 1);
        Check.due("keeps(1, -1)", x.keeps(1, -1), 2);
        Check.due("keeps(1, 0)", x.keeps(1, 0), -1);
        Check.due("motif(1, 6)", x.motif(1, 6), 0);
        Check.due("keeps(1, 3)", x.keeps(1, 3), -2);
        Check.due("keeps(1, -2)", x.keeps(1, -2), -2);
        Check.due("keeps(4, 0)", x.keeps(4, 0), -2);
        Check.due("motif(1, 6)", x.motif(1, 6), 0);
        Check.due("why(0)", x.why(0), 0);
        x.keeps(0, 1);
        Check.due("why(0), kept by another", x.why(0), 6);
        Check.due("longest()", x.longest(), 0);
        x.keeps(0, 0);
        Check.due("why(0), kept by him", x.why(0), 0);
        Check.due("longest()", x.longest(), 1);
        Check.due("forbid(2, 0)", x.forbid(2, 0), 1);
        Check.due("forbid(2, 0)", x.forbid(2, 0), 0);
        Check.due("wholes()", x.wholes(), 1);
        Check.due("forbid(0, 1)", x.forbid(0, 1), 0);
        Check.due("motif(0, 7)", x.motif(0, 7), 1);
        Check.due("wholes()", x.wholes(), 0);
        Check.due("forbid(0, 2)", x.forbid(0, 2), -2);
        Check.due("forbid(0, -1)", x.forbid(0, -1), -2);
        Check.due("forbid(4, 1)", x.forbid(4, 1), -2);
        Check.due("motif(0, 7)", x.motif(0, 7), 1);
    }

    private static void withoutCourt() {
        TaleCourt x = new TaleCourt();
        Check.due("motif(0, 0)", x.motif(0, 0), -2);
        Check.due("joins(0, 0)", x.joins(0, 0), -2);
        Check.due("clash(0, 0)", x.clash(0, 0), -2);
        Check.due("behind(0)", x.behind(0), -2);
        Check.due("ahead(0)", x.ahead(0), -2);
        Check.due("comes(0)", x.comes(0), -2);
        Check.due("chain(0, 0)", x.chain(0, 0), -2);
        Check.due("keeps(0, -1)", x.keeps(0, -1), -2);
        Check.due("forbid(0, 0)", x.forbid(0, 0), -2);
    }
}
