/** Promises 1 to 5: a new object, the tape, the text of a court and its faults. */
public final class TextTest {
    private static final String HEAD = "court tellers 2 silent 1;";
    private static final String MOTIF = "motif worth 1;";

    public static void main(String[] args) {
        newObject();
        tape();
        grammar();
        faultsOfHead();
        faultsOfMotifs();
        faultsOfPairs();
        faultsOfListeners();
        staying();
        Check.finish();
    }

    private static void newObject() {
        TaleCourt x = new TaleCourt();
        Check.due("new: fault(0)", x.fault(0), 0);
        Check.due("new: fault(1)", x.fault(1), -1);
        Check.due("new: fault(2)", x.fault(2), -1);
        Check.due("new: fault(-1)", x.fault(-1), -1);
        Check.due("new: length()", x.length(), -2);
        for (int what = 0; what < 10; what++) {
            Check.due("new: count()", x.count(what), 0);
        }
        Check.due("new: count(10)", x.count(10), -1);
        Check.due("new: count(-1)", x.count(-1), -1);
    }

    private static void tape() {
        TaleCourt x = new TaleCourt();
        Check.due("end(0)", x.end(0), 0);
        Check.due("end(1) of none", x.end(1), -1);
        Check.due("end(-1)", x.end(-1), -1);
        for (int i = 1; i <= 80; i++) {
            Check.due("feed()", x.feed(0, 0, 0, 0, 0), 20 * i);
        }
        Check.due("feed() beyond 1600", x.feed(0, 0, 0, 0, 0), -1);
        Check.due("count(7)", x.count(7), 1600);
        Check.due("end(1601)", x.end(1601), -1);
        Check.due("end(1581)", x.end(1581), 1581);
        Check.due("feed() to 1601", x.feed(0, 0, 0, 0, 0), -1);
        Check.due("end(1580)", x.end(1580), 1580);
        Check.due("feed() to 1600", x.feed(0, 0, 0, 0, 0), 1600);
        Check.due("end(0)", x.end(0), 0);
        // "court tellers 2 silent 1;" by its bytes, the highest first
        Check.due("feed()", x.feed(0x636f7572, 0x74207465, 0x6c6c6572, 0x73203220, 0x73696c65), 20);
        Check.due("feed()", x.feed(0x6e742031, 0x3b000000, 0, 0, 0), 40);
        Check.due("end(25)", x.end(25), 25);
        Check.due("court()", x.court(), 1);
        Check.due("count(7) behind court()", x.count(7), 0);
    }

    private static void grammar() {
        good("", 0);
        good(" \n ", 0);
        good(HEAD, 1);
        good("\n court\ntellers\n3 silent 0 ;\n\n", 1);
        good("court tellers 1 silent 3;motif worth 0;motif worth 9;", 3);
        good("court tellers 00000000000000000000002 silent 00;", 1);
        good("court tellers2silent1;motif worth9opens;", 2);
        good(HEAD + "motif worth 1 song owes 8 within 9 opens stranger;", 2);
        good(HEAD + "motif worth 1 owes 1 within 1;" + MOTIF, 3);
        good(HEAD + MOTIF + MOTIF + "join 0 to 1;join 1 to 0;clash 1 and 0;keeps 1 0;keeps 0 0;forbid 1;forbid 1;", 10);
        good(HEAD + MOTIF + MOTIF + "listener loves 9;listener loves 0 1 0;", 5);
        good(HEAD + MOTIF.repeat(9) + "listener loves 1 8 7 6 5 4 3 2 1 0;", 11);
        good(HEAD + "listener loves 1;".repeat(8), 9);
        TaleCourt x = Check.of(HEAD);
        Check.due("an empty court", x.court(), 0);
        Check.due("is none", x.length(), -2);
        Check.due("lines of none", x.count(6), 0);
    }

    private static void faultsOfHead() {
        bad("c", 1, 0);
        bad(";", 1, 0);
        bad("7", 1, 0);
        bad("  motif worth 1;", 1, 2);
        bad("courts tellers 2 silent 1;", 1, 0);
        bad("court", 1, 5);
        bad("court  ", 1, 7);
        bad("court tellers 2", 1, 15);
        bad("court teller 2 silent 1;", 1, 6);
        bad("court tellers x silent 1;", 1, 14);
        bad("court tellers 0 silent 1;", 2, 14);
        bad("court tellers 4 silent 1;", 2, 14);
        bad("court tellers 99999999999999999999 silent 1;", 2, 14);
        bad("court tellers 4294967298 silent 1;", 2, 14);
        bad("court tellers 2 silent 4;", 2, 23);
        bad("court tellers 2 silent 1", 1, 24);
        bad("court tellers 2 silent 1 1;", 1, 25);
        bad("court tellers 2 silent -1;", 1, 23);
        bad("court\ttellers 2 silent 1;", 1, 5);
        bad("Court tellers 2 silent 1;", 1, 0);
        bad(HEAD + (char) 225, 1, 25);
        bad(HEAD + (char) 0, 1, 25);
        bad(HEAD + HEAD, 1, 25);
        bad(HEAD + ";", 1, 25);
        bad(HEAD + "9", 1, 25);
        bad(HEAD + " joins 0 to 1;", 1, 26);
    }

    private static void faultsOfMotifs() {
        bad(HEAD + "motif 1;", 1, 31);
        bad(HEAD + "motif worth;", 1, 36);
        bad(HEAD + "motif worth 10;", 2, 37);
        bad(HEAD + "motif worth 1 worth 1;", 1, 39);
        bad(HEAD + "motif worth 1 opens opens;", 1, 45);
        bad(HEAD + "motif worth 1 song stranger song;", 1, 53);
        bad(HEAD + "motif worth 1 stranger stranger;", 1, 48);
        bad(HEAD + "motif worth 1 owes 1 within 1 owes 2 within 1;", 1, 55);
        bad(HEAD + "motif worth 1 opens song stranger owes 1 within 1 opens;", 1, 75);
        bad(HEAD + "motif worth 1 owes 0 within 1;", 2, 44);
        bad(HEAD + MOTIF + "motif worth 1 owes 1 within 1;", 2, 58);
        bad(HEAD + "motif worth 1 owes 9 within 1;", 2, 44);
        bad(HEAD + "motif worth 1 owes 1 within 0;", 2, 53);
        bad(HEAD + "motif worth 1 owes 1 within 10;", 2, 53);
        bad(HEAD + "motif worth 1 owes 1;", 1, 45);
        bad(HEAD + "motif worth 1 opens", 1, 44);
        bad(HEAD + MOTIF.repeat(9) + MOTIF, 3, 25 + 9 * 14);
        bad(HEAD + MOTIF.repeat(9) + "motif", 3, 25 + 9 * 14);
    }

    private static void faultsOfPairs() {
        String two = HEAD + MOTIF + MOTIF;
        bad(HEAD + "join 0 to 1;", 2, 30);
        bad(HEAD + MOTIF + "join 0 to 1;" + MOTIF, 2, 49);
        bad(two + "join 0 to 0;", 2, 63);
        bad(two + "join 2 to 0;", 2, 58);
        bad(two + "join 0 and 1;", 1, 60);
        bad(two + "join 0 to 1;join 0 to 1;", 2, 75);
        bad(two + "join 0 to 1 1;", 1, 65);
        bad(two + "clash 0 and 0;", 2, 65);
        bad(two + "clash 0 to 1;", 1, 61);
        bad(two + "clash 0 and 1;clash 0 and 1;", 2, 79);
        bad(two + "clash 0 and 1;clash 1 and 0;", 2, 79);
        bad(two + "keeps 2 0;", 2, 59);
        bad(two + "keeps 1 2;", 2, 61);
        bad(two + "keeps 1;", 1, 60);
        bad(two + "forbid 2;", 2, 60);
        bad(two + "forbid;", 1, 59);
        bad(two + "forbid 0 1;", 1, 62);
        bad(HEAD + "forbid 0;" + MOTIF, 2, 32);
    }

    private static void faultsOfListeners() {
        String two = HEAD + MOTIF + MOTIF;
        bad(two + "listener loves 10;", 2, 68);
        bad(two + "listener loves;", 1, 67);
        bad(two + "listener 1;", 1, 62);
        bad(two + "listener loves 1 2;", 2, 70);
        bad(two + "listener loves 1 0 1 0;", 2, 74);
        bad(two + "listener loves 1 0 x;", 1, 72);
        bad(two + "listener loves 1 0", 1, 71);
        bad(HEAD + MOTIF.repeat(9) + "listener loves 1 0 1 2 3 4 5 6 7 8 8;", 2, 25 + 126 + 35);
        bad(HEAD + MOTIF.repeat(9) + "listener loves 1 0 1 2 3 4 5 6 7 8 ?", 1, 25 + 126 + 35);
        bad(HEAD + "listener loves 1;".repeat(9), 3, 25 + 8 * 17);
    }

    private static void staying() {
        TaleCourt x = Check.of(HEAD + "motif worth 5 opens;");
        Check.due("say(0)", x.say(0), 5);
        Check.due("a fault", Check.court(x, "court tellers 9 silent 0;"), -4);
        Check.due("the fault", x.fault(0), 2);
        Check.due("its place", x.fault(1), 14);
        Check.due("the tape stays", x.count(7), 25);
        Check.due("the court stays", x.count(0), 1);
        Check.due("the tale stays", x.told(0), 0);
        Check.due("the same fault again", x.court(), -4);
        Check.due("cut to nothing", x.end(0), 0);
        Check.due("another court", Check.court(x, "court tellers 3 silent 0;"), 1);
        Check.due("no fault", x.fault(0), 0);
        Check.due("no place", x.fault(1), -1);
        Check.due("nothing told", x.length(), 0);
        Check.due("no motifs", x.count(0), 0);
    }

    private static void good(String text, int lines) {
        TaleCourt x = new TaleCourt();
        Check.tape(x, text);
        Check.due("court() of " + text, x.court(), lines);
        Check.due("fault(0) of " + text, x.fault(0), 0);
        Check.due("fault(1) of " + text, x.fault(1), -1);
        Check.due("count(6) of " + text, x.count(6), lines);
        Check.due("count(7) of " + text, x.count(7), 0);
    }

    private static void bad(String text, int fault, int place) {
        TaleCourt x = new TaleCourt();
        Check.tape(x, text);
        Check.due("court() of " + text, x.court(), -4);
        Check.due("fault(0) of " + text, x.fault(0), fault);
        Check.due("fault(1) of " + text, x.fault(1), place);
        Check.due("fault(2) of " + text, x.fault(2), -1);
    }
}
