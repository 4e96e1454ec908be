/** Promises 1 to 5: a new object, the tape, the text of a court and its faults. */
public final class TextTest {
    private static final String HEAD = "court tellers 2 silent 1;";
    private static final String MOTIF = "motif worth 1;";

    public static void main(String[] args) {
        newObject();
        tape();
        grammar();
        faultsOfHead();
        faultsOfMotifs();
        faultsOfPairs();
        faultsOfListeners();
        staying();
        Check.finish();
    }

    private static void newObject() {
        TaleCourt x = new TaleCourt();
        Check.due("new: fault(0)", x.fault(0), 0);
        Check.due("new: fault(1)", x.fault(1), -1);
        Check.due("new: fault(2)", x.fault(2), -1);
        Check.due("new: fault(-1)", x.fault(-1), -1);
        Check.due("new: length()", x.length(), -2);
        for (int what = 0; what < 10; what++) {
            Check.due("new: count()", x.count(what), 0);
        }
        Check.due("new: count(10)", x.count(10), -1);
        Check.due("new: count(-1)", x.count(-1), -1);
    }

    private static void tape() {
        TaleCourt x = new TaleCourt();
        Check.due("end(0)", x.end(0), 0);
        Check.due("end(1) of none", x.end(1), -1);
        Check.due("end(-1)", x.end(-1), -1);
        for (int i = 1; i <= 80; i++) {
            Check.due("feed()", x.feed(0, 0, 0, 0, 0), 20 * i);
        }
        Check.due("feed() beyond 1600", x.feed(0, 0, 0, 0, 0), -1);
        Check.due("count(7)", x.count(7), 1600);
        Check.due("end(1601)", x.end(1601), -1);
        Check.due("end(1581)", x.end(1581), 1581);
        Check.due("feed() to 1601", x.feed(0, 0, 0, 0, 0), -1);
        Check.due("end(1580)", x.end(1580), 1580);
        Check.due("feed() to 1600", x.feed(0, 0, 0, 0, 0), 1600);
        Check.due("end(0)", x.end(0), 0);
        // "court tellers 2 silent 1;" by its bytes, the highest first
        Check.due("feed()", x.feed(0x636f7572, 0x74207465, 0x6c6c6572, 0x73203220, 0x73696c65), 20);
        Check.due("feed()", x.feed(0x6e742031, 0x3b000000, 0, 0, 0), 40);
        Check.due("end(25)", x.end(25), 25);
        Check.due("court()", x.court(), 1);
        Check.due("count(7) behind court()", x.count(7), 0);
    }

    private static void grammar() {
        Check.good("", 0);
        Check.good(" \n ", 0);
        Check.good(HEAD, 1);
        Check.good("\n court\ntellers\n3 silent 0 ;\n\n", 1);
        Check.good("court tellers 1 silent 3;motif worth 0;motif worth 9;", 3);
        Check.good("court tellers 00000000000000000000002 silent 00;", 1);
        Check.good("court tellers2silent1;motif worth9opens;", 2);
        Check.good(HEAD + "motif worth 1 song owes 8 within 9 opens stranger;", 2);
        Check.good(HEAD + "motif worth 1 owes 1 within 1;" + MOTIF, 3);
        Check.good(HEAD + MOTIF + MOTIF + "join 0 to 1;join 1 to 0;clash 1 and 0;keeps 1 0;keeps 0 0;forbid 1;forbid 1;", 10);
        Check.good(HEAD + MOTIF + MOTIF + "listener loves 9;listener loves 0 1 0;", 5);
        Check.good(HEAD + MOTIF.repeat(9) + "listener loves 1 8 7 6 5 4 3 2 1 0;", 11);
        Check.good(HEAD + "listener loves 1;".repeat(8), 9);
        TaleCourt x = Check.of(HEAD);
        Check.due("an empty court", x.court(), 0);
        Check.due("is none", x.length(), -2);
        Check.due("lines of none", x.count(6), 0);
    }

    private static void faultsOfHead() {
        Check.bad("c", 1, 0);
        Check.bad(";", 1, 0);
        Check.bad("7", 1, 0);
        Check.bad("  motif worth 1;", 1, 2);
        Check.bad("courts tellers 2 silent 1;", 1, 0);
        Check.bad("court", 1, 5);
        Check.bad("court  ", 1, 7);
        Check.bad("court tellers 2", 1, 15);
        Check.bad("court teller 2 silent 1;", 1, 6);
        Check.bad("court tellers x silent 1;", 1, 14);
        Check.bad("court tellers 0 silent 1;", 2, 14);
        Check.bad("court tellers 4 silent 1;", 2, 14);
        Check.bad("court tellers 99999999999999999999 silent 1;", 2, 14);
        Check.bad("court tellers 4294967298 silent 1;", 2, 14);
        Check.bad("court tellers 2 silent 4;", 2, 23);
        Check.bad("court tellers 2 silent 1", 1, 24);
        Check.bad("court tellers 2 silent 1 1;", 1, 25);
        Check.bad("court tellers 2 silent -1;", 1, 23);
        Check.bad("court\ttellers 2 silent 1;", 1, 5);
        Check.bad("Court tellers 2 silent 1;", 1, 0);
        Check.bad(HEAD + (char) 225, 1, 25);
        Check.bad(HEAD + (char) 0, 1, 25);
        Check.bad(HEAD + HEAD, 1, 25);
        Check.bad(HEAD + ";", 1, 25);
        Check.bad(HEAD + "9", 1, 25);
        Check.bad(HEAD + " joins 0 to 1;", 1, 26);
    }

    private static void faultsOfMotifs() {
        Check.bad(HEAD + "motif 1;", 1, 31);
        Check.bad(HEAD + "motif worth;", 1, 36);
        Check.bad(HEAD + "motif worth 10;", 2, 37);
        Check.bad(HEAD + "motif worth 1 worth 1;", 1, 39);
        Check.bad(HEAD + "motif worth 1 opens opens;", 1, 45);
        Check.bad(HEAD + "motif worth 1 song stranger song;", 1, 53);
        Check.bad(HEAD + "motif worth 1 stranger stranger;", 1, 48);
        Check.bad(HEAD + "motif worth 1 owes 1 within 1 owes 2 within 1;", 1, 55);
        Check.bad(HEAD + "motif worth 1 opens song stranger owes 1 within 1 opens;", 1, 75);
        Check.bad(HEAD + "motif worth 1 owes 0 within 1;", 2, 44);
        Check.bad(HEAD + MOTIF + "motif worth 1 owes 1 within 1;", 2, 58);
        Check.bad(HEAD + "motif worth 1 owes 9 within 1;", 2, 44);
        Check.bad(HEAD + "motif worth 1 owes 1 within 0;", 2, 53);
        Check.bad(HEAD + "motif worth 1 owes 1 within 10;", 2, 53);
        Check.bad(HEAD + "motif worth 1 owes 1;", 1, 45);
        Check.bad(HEAD + "motif worth 1 opens", 1, 44);
        Check.bad(HEAD + MOTIF.repeat(9) + MOTIF, 3, 25 + 9 * 14);
        Check.bad(HEAD + MOTIF.repeat(9) + "motif", 3, 25 + 9 * 14);
    }

    private static void faultsOfPairs() {
        String two = HEAD + MOTIF + MOTIF;
        Check.bad(HEAD + "join 0 to 1;", 2, 30);
        Check.bad(HEAD + MOTIF + "join 0 to 1;" + MOTIF, 2, 49);
        Check.bad(two + "join 0 to 0;", 2, 63);
        Check.bad(two + "join 2 to 0;", 2, 58);
        Check.bad(two + "join 0 and 1;", 1, 60);
        Check.bad(two + "join 0 to 1;join 0 to 1;", 2, 75);
        Check.bad(two + "join 0 to 1 1;", 1, 65);
        Check.bad(two + "clash 0 and 0;", 2, 65);
        Check.bad(two + "clash 0 to 1;", 1, 61);
        Check.bad(two + "clash 0 and 1;clash 0 and 1;", 2, 79);
        Check.bad(two + "clash 0 and 1;clash 1 and 0;", 2, 79);
        Check.bad(two + "keeps 2 0;", 2, 59);
        Check.bad(two + "keeps 1 2;", 2, 61);
        Check.bad(two + "keeps 1;", 1, 60);
        Check.bad(two + "forbid 2;", 2, 60);
        Check.bad(two + "forbid;", 1, 59);
        Check.bad(two + "forbid 0 1;", 1, 62);
        Check.bad(HEAD + "forbid 0;" + MOTIF, 2, 32);
    }

    private static void faultsOfListeners() {
        String two = HEAD + MOTIF + MOTIF;
        Check.bad(two + "listener loves 10;", 2, 68);
        Check.bad(two + "listener loves;", 1, 67);
        Check.bad(two + "listener 1;", 1, 62);
        Check.bad(two + "listener loves 1 2;", 2, 70);
        Check.bad(two + "listener loves 1 0 1 0;", 2, 74);
        Check.bad(two + "listener loves 1 0 x;", 1, 72);
        Check.bad(two + "listener loves 1 0", 1, 71);
        Check.bad(HEAD + MOTIF.repeat(9) + "listener loves 1 0 1 2 3 4 5 6 7 8 8;", 2, 25 + 126 + 35);
        Check.bad(HEAD + MOTIF.repeat(9) + "listener loves 1 0 1 2 3 4 5 6 7 8 ?", 1, 25 + 126 + 35);
        Check.bad(HEAD + "listener loves 1;".repeat(9), 3, 25 + 8 * 17);
    }

    private static void staying() {
        TaleCourt x = Check.of(HEAD + "motif worth 5 opens;");
        Check.due("say(0)", x.say(0), 5);
        Check.due("a fault", Check.court(x, "court tellers 9 silent 0;"), -4);
        Check.due("the fault", x.fault(0), 2);
        Check.due("its place", x.fault(1), 14);
        Check.due("the tape stays", x.count(7), 25);
        Check.due("the court stays", x.count(0), 1);
        Check.due("the tale stays", x.told(0), 0);
        Check.due("the same fault again", x.court(), -4);
        Check.due("cut to nothing", x.end(0), 0);
        Check.due("another court", Check.court(x, "court tellers 3 silent 0;"), 1);
        Check.due("no fault", x.fault(0), 0);
        Check.due("no place", x.fault(1), -1);
        Check.due("nothing told", x.length(), 0);
        Check.due("no motifs", x.count(0), 0);
    }
}
