import java.io.IOException;

/** Every sentence of the promises and of the terms, with its edges. Run from the project's folder. */
public final class EdgeTest {
    public static void main(String[] args) throws IOException {
        Edge.begin();
        TextEdges.run();
        CourtEdges.run();
        TaleEdges.run();
        SurveyEdges.run();
        GameEdges.run();
        RowEdges.run();
        DrawEdges.run();
        lastCall();
        Edge.finish();
        Check.finish();
    }

    /** The dearest calls, as often as an object may be asked: the last answers are still right. */
    private static void lastCall() {
        Edge.of("use", "An object is used for at most 512 calls after it has been made");
        TaleCourt x = Check.allJoined("court tellers 2 silent 3;", "1", "2", "3", "4", "5", "6", "7", "8", "9");
        // The text took 58 calls: 54 of feed() and four others.
        for (int call = 58; call < 508; call++) {
            Check.due("always(1)", x.always(1), 511);
        }
        Check.due("crux()", x.crux(), 0);
        Check.due("wins()", x.wins(), 1);
        Check.due("lasts()", x.lasts(), 15);
        Check.due("wholes()", x.wholes(), 986409);
    }
}
