/** Promises 61 to 63, 65 and 66: tales drawn, and images. */
public final class DrawTest {
    private static final String TEXT = "court tellers 2 silent 1;motif worth 1 opens;motif worth 2 opens;"
        + "motif worth 4 song;join 0 to 1;join 1 to 0;join 0 to 2;join 1 to 2;forbid 1;listener loves 3 0;";

    public static void main(String[] args) {
        drawing();
        images();
        wrongInputs();
        Check.finish();
    }

    private static void drawing() {
        TaleCourt x = Check.of(TEXT);
        // Seed 1: 1103527590 / 65536 = 16838, of 2: motif 0. Then 377401575 .. : 5758, of 2: motif 1. Then 10113, of 1.
        Check.due("lot(1, 0)", x.lot(1, 0), 0);
        Check.due("lot(1, 1)", x.lot(1, 1), 1);
        Check.due("lot(1, 2)", x.lot(1, 2), 2);
        Check.due("lot(1, 3)", x.lot(1, 3), -1);
        Check.due("lot(1, -1)", x.lot(1, -1), -1);
        Check.due("drawn(1, 0)", x.drawn(1, 0), 3);
        Check.due("drawn(1, 1)", x.drawn(1, 1), 15);
        Check.due("drawn(1, 2)", x.drawn(1, 2), 1);
        Check.due("nothing is told by it", x.length(), 0);
        x.say(1);
        // Seed 0: 12345 / 65536 = 0, of 2: motif 0, then 2.
        Check.due("lot(0, 0)", x.lot(0, 0), 0);
        Check.due("lot(0, 1)", x.lot(0, 1), 2);
        Check.due("drawn(0, 0)", x.drawn(0, 0), 2);
        Check.due("drawn(0, 1), all told", x.drawn(0, 1), 15);
        Check.due("nights(0, 20)", x.nights(0, 20), 20);
        x.forbid(2, 1);
        Check.due("nights(0, 20), forbidden", x.nights(0, 20), 0);
        int sum = 0;
        x = Check.of("court tellers 1 silent 0;motif worth 1 opens;motif worth 1 opens;forbid 0;");
        for (int i = 0; i < 20; i++) {
            sum += x.drawn(1999999990 + i > 2000000000 ? 0 : 1999999990 + i, 2) == 1 && i <= 10 ? 1 : 0;
        }
        Check.due("nights(1999999990, 11)", x.nights(1999999990, 11), sum);
        Check.due("nights(7, 1)", x.nights(7, 1), x.drawn(7, 2));
    }

    private static void images() {
        TaleCourt x = new TaleCourt();
        Check.due("back(0)", x.back(0), -6);
        Check.due("keep(-1)", x.keep(-1), -2);
        Check.due("keep(3)", x.keep(3), -2);
        Check.due("back(-1)", x.back(-1), -2);
        Check.due("back(3)", x.back(3), -2);
        Check.due("keep(2) of no court", x.keep(2), 0);
        Check.court(x, TEXT);
        x.say(0);
        x.hush();
        Check.due("keep(0)", x.keep(0), 0);
        x.keeps(2, 1);
        x.forbid(2, 1);
        x.say(1);
        Check.due("keep(1)", x.keep(1), 0);
        x.row(0, 0, 1);
        Check.tape(x, "court");
        Check.due("a fault", x.court(), -4);
        Check.due("back(0)", x.back(0), 0);
        Check.due("slots stay", x.count(9), 1);
        Check.due("the tape stays", x.count(7), 5);
        Check.due("the fault stays", x.fault(1), 5);
        Check.due("length()", x.length(), 2);
        Check.due("told(1)", x.told(1), 9);
        Check.due("left(1)", x.left(1), 0);
        Check.due("left(0)", x.left(0), 1);
        Check.due("motif(2, 6)", x.motif(2, 6), -1);
        Check.due("motif(2, 7)", x.motif(2, 7), 0);
        Check.due("count(5)", x.count(5), 1);
        Check.due("wholes()", x.wholes(), 3);
        Check.due("unsay()", x.unsay(), 1);
        Check.due("left(1)", x.left(1), 1);
        Check.due("back(1)", x.back(1), 0);
        Check.due("length()", x.length(), 3);
        Check.due("motif(2, 6)", x.motif(2, 6), 1);
        Check.due("wholes()", x.wholes(), 0);
        Check.due("back(0), unchanged", x.back(0), 0);
        Check.due("length()", x.length(), 2);
        Check.due("back(2)", x.back(2), 0);
        Check.due("no court", x.length(), -2);
        Check.due("no court", x.wholes(), -2);
        Check.due("no court", x.count(6), 0);
        Check.due("back(0)", x.back(0), 0);
        Check.due("wholes()", x.wholes(), 3);
    }

    private static void wrongInputs() {
        TaleCourt none = new TaleCourt();
        Check.due("drawn(0, 0)", none.drawn(0, 0), -2);
        Check.due("lot(0, 0)", none.lot(0, 0), -2);
        Check.due("nights(0, 1)", none.nights(0, 1), -2);
        TaleCourt x = Check.of(TEXT);
        Check.due("drawn(-1, 0)", x.drawn(-1, 0), -2);
        Check.due("drawn(2000000001, 0)", x.drawn(2000000001, 0), -2);
        Check.due("drawn(2000000000, 0)", x.drawn(2000000000, 0) > 0 ? 1 : 0, 1);
        Check.due("drawn(0, 3)", x.drawn(0, 3), -2);
        Check.due("drawn(0, -1)", x.drawn(0, -1), -2);
        Check.due("lot(-1, 0)", x.lot(-1, 0), -2);
        Check.due("lot(2000000001, 0)", x.lot(2000000001, 0), -2);
        Check.due("nights(0, 0)", x.nights(0, 0), -2);
        Check.due("nights(0, 21)", x.nights(0, 21), -2);
        Check.due("nights(-1, 1)", x.nights(-1, 1), -2);
        Check.due("nights(2000000001, 1)", x.nights(2000000001, 1), -2);
    }
}
