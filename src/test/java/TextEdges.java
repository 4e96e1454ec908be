/** Promises 1 to 5 and term I: the tape, the text of a court, its faults. */
final class TextEdges {
    private static final String HEAD = "court tellers 2 silent 1;";
    private static final String MOTIF = "motif worth 1;";
    private static final String TWO = HEAD + MOTIF + MOTIF;
    private static final int BLANKS = 0x20202020;
    private static final String RICH = "court tellers 3 silent 3;motif worth 9 opens song owes 1 within 9;"
        + "motif worth 9 stranger song owes 0 within 9;join 0 to 1;join 1 to 0;clash 0 and 1;keeps 0 0;keeps 2 1;"
        + "forbid 0;forbid 1;listener loves 9 0 1;";

    private TextEdges() {
    }

    static void run() {
        newObject();
        feeding();
        ending();
        courtRead();
        courtReplaced();
        courtFaulty();
        faultAsked();
        lineForms();
        headBounds();
        motifBounds();
        motifsNamed();
        pairs();
        keepsAndLoves();
        numbering();
        tokens();
        faultPlaces();
        faultKinds();
    }

    private static void newObject() {
        Edge.of("1", "No COURT.");
        TaleCourt x = new TaleCourt();
        for (int what = 0; what <= 9; what++) {
            Check.due("count(" + what + ")", x.count(what), 0);
        }
        Check.due("length()", x.length(), -2);
        Check.due("motif(0, 0)", x.motif(0, 0), -2);
        Check.due("share(0)", x.share(0), -2);
        for (int slot = 0; slot < 4; slot++) {
            Check.due("write()", x.write(slot, 0, 0), -6);
        }
        for (int k = 0; k < 3; k++) {
            Check.due("back()", x.back(k), -6);
        }
        Check.due("court()", x.court(), 0);
        Check.due("length()", x.length(), -2);
        Check.due("NONE", TaleCourt.NONE, -1);
    }

    private static void feeding() {
        Edge.of("2", "Twenty bytes come behind the TAPE, four of each number, the highest first: how many it has");
        TaleCourt x = new TaleCourt();
        Check.due("feed()", x.feed(0x636f7572, 0x74207465, 0x6c6c6572, 0x73203220, 0x73696c65), 20);
        Check.due("feed()", x.feed(0x6e742031, 0x3b202020, BLANKS, BLANKS, BLANKS), 40);
        Check.due("court()", x.court(), 1);
        Check.due("feed(), the tape is empty", x.feed(BLANKS, BLANKS, BLANKS, BLANKS, BLANKS), 20);
        for (int place = 0; place < 20; place++) {
            int[] n = {BLANKS, BLANKS, BLANKS, BLANKS, BLANKS};
            n[place / 4] |= 255 << 24 - 8 * (place % 4);
            x = new TaleCourt();
            Check.due("feed()", x.feed(n[0], n[1], n[2], n[3], n[4]), 20);
            Check.due("court()", x.court(), -4);
            Check.due("place of the byte", x.fault(1), place);
        }
        Edge.of("2", "NONE, and none come, if it would have more than 1,600");
        x = new TaleCourt();
        for (int i = 1; i <= 80; i++) {
            Check.due("feed()", x.feed(BLANKS, BLANKS, BLANKS, BLANKS, BLANKS), 20 * i);
        }
        Check.due("feed() to 1620", x.feed(0, 0, 0, 0, 0), -1);
        Check.due("count(7)", x.count(7), 1600);
        x.end(1581);
        Check.due("feed() to 1601", x.feed(0, 0, 0, 0, 0), -1);
        Check.due("count(7)", x.count(7), 1581);
        Check.due("end(1582)", x.end(1582), -1);
        Check.due("court(), blanks alone", x.court(), 0);
        for (int i = 1; i <= 80; i++) {
            x.feed(BLANKS, BLANKS, BLANKS, BLANKS, BLANKS);
        }
        x.end(1580);
        Check.due("feed() to 1600", x.feed(BLANKS, BLANKS, BLANKS, BLANKS, 0x2020203f), 1600);
        Check.due("court()", x.court(), -4);
        Check.due("the last byte's place", x.fault(1), 1599);
    }

    private static void ending() {
        Edge.of("3", "The TAPE has its first n bytes alone: n");
        TaleCourt x = new TaleCourt();
        Check.due("end(0) of none", x.end(0), 0);
        Check.tape(x, HEAD + MOTIF);
        Check.due("end(39), all", x.end(39), 39);
        Check.due("end(25)", x.end(25), 25);
        Check.due("count(7)", x.count(7), 25);
        Check.due("feed() behind them", x.feed(BLANKS, BLANKS, BLANKS, BLANKS, BLANKS), 45);
        Check.due("court()", x.court(), 1);
        Check.tape(x, HEAD);
        Check.due("end(0)", x.end(0), 0);
        Check.due("court()", x.court(), 0);
        Edge.of("3", "NONE, and nothing happens, if it has not so many, or n is below 0");
        x = new TaleCourt();
        Check.due("end(1) of none", x.end(1), -1);
        Check.tape(x, HEAD + MOTIF);
        int[] wrong = {40, 1600, 1601, Integer.MAX_VALUE, -1, -25, Integer.MIN_VALUE};
        for (int n : wrong) {
            Check.due("end(" + n + ")", x.end(n), -1);
            Check.due("count(7)", x.count(7), 39);
        }
        x.end(25);
        Check.due("end(26), bytes that were", x.end(26), -1);
        Check.due("court()", x.court(), 1);
        Check.due("end(1) behind court()", x.end(1), -1);
    }

    private static void courtRead() {
        Edge.of("4", "The TAPE (empty then) is the COURT");
        TaleCourt x = new TaleCourt();
        Check.tape(x, HEAD + MOTIF);
        Check.due("court()", x.court(), 2);
        Check.due("count(7)", x.count(7), 0);
        Check.due("count(0)", x.count(0), 1);
        Check.due("count(1)", x.count(1), 2);
        Edge.of("4", "how many LINES");
        Check.due("court()", Check.court(x, HEAD), 1);
        Check.due("court()", Check.court(x, RICH), 11);
        Check.due("court(), blank ones aside", Check.court(x, "\n\n" + HEAD + "\n\n\n" + MOTIF + " \n"), 2);
        // As many as a tape can have, and the tape full to its last byte.
        String most = HEAD + MOTIF + "forbid 0;".repeat(173);
        Check.due("its length", Check.tape(x, " ".repeat(1600 - most.length()) + most), 1600);
        Check.due("court() of 1600 bytes", x.court(), 175);
        Edge.of("4", "(0: there is none then)");
        String[] empty = {"", " ", "\n", " \n \n  "};
        for (String text : empty) {
            x = Check.of(RICH);
            x.say(0);
            Check.due("court()", Check.court(x, text), 0);
            Check.due("fault(0)", x.fault(0), 0);
            Check.due("fault(1)", x.fault(1), -1);
            Check.due("length()", x.length(), -2);
            Check.due("motif(0, 0)", x.motif(0, 0), -2);
            Check.due("left(0)", x.left(0), -2);
            Check.due("wholes()", x.wholes(), -2);
            for (int what = 0; what <= 8; what++) {
                Check.due("count(" + what + ")", x.count(what), 0);
            }
        }
    }

    private static void courtReplaced() {
        Edge.of("4", "(in place of another)");
        TaleCourt x = Check.of(RICH);
        Check.due("court()", Check.court(x, "court tellers 2 silent 0;motif worth 0;motif worth 0;listener loves 0 1;"), 4);
        int[] counts = {2, 2, 0, 0, 0, 1, 4};
        for (int what = 0; what < counts.length; what++) {
            Check.due("count(" + what + ")", x.count(what), counts[what]);
        }
        int[] plain = {0, 0, 0, 0, -1, 0, -1, 0};
        for (int m = 0; m < 2; m++) {
            for (int what = 0; what < 8; what++) {
                Check.due("motif(" + m + ", " + what + ")", x.motif(m, what), plain[what]);
            }
            Check.due("joins()", x.joins(m, 1 - m), 0);
            Check.due("clash()", x.clash(m, 1 - m), 0);
            Check.due("behind()", x.behind(m), 0);
            Check.due("why()", x.why(m), 3);
        }
        Check.row(x, 0, 0, 1);
        Check.due("taste()", x.taste(0, 0), 0);
        Check.due("taste()", x.taste(1, 0), -1000);
        Check.due("left(2)", x.left(2), -2);
        x = Check.of("court tellers 2 silent 0;motif worth 1 opens;keeps 1 0;");
        Check.due("why(0)", x.why(0), 6);
        Check.court(x, "court tellers 2 silent 0;motif worth 1 opens;");
        Check.due("why(0), nobody keeps it any more", x.why(0), 0);
        Edge.of("4", ", nothing told");
        x = Check.of(RICH);
        Check.due("say(0)", x.say(0), 27);
        Check.due("hush()", x.hush(), 2);
        Check.due("owed()", x.owed(), 2);
        Check.court(x, RICH);
        Check.due("length()", x.length(), 0);
        Check.due("told(0)", x.told(0), -1);
        Check.due("owed()", x.owed(), 0);
        Check.due("due(1)", x.due(1), -1);
        Check.due("points()", x.points(), 0);
        Check.due("left(1)", x.left(1), 3);
        Check.due("whose()", x.whose(), 0);
        Check.due("unsay()", x.unsay(), -5);
        Check.due("why(0)", x.why(0), 0);
    }

    private static void courtFaulty() {
        Edge.of("4", "-4: a FAULT (all stays)");
        TaleCourt x = Check.of(RICH);
        x.say(0);
        x.hush();
        x.keep(1);
        x.keeps(1, 1);
        x.forbid(1, 0);
        x.row(2, 0, 1);
        // A whole court ahead of its fault.
        String bad = "court tellers 1 silent 0;motif worth 1;listener loves 1;forbid 1;";
        Check.due("court()", Check.court(x, bad), -4);
        Check.due("the tape", x.count(7), bad.length());
        int[] counts = {2, 3, 3, 2, 1, 1, 11};
        for (int what = 0; what < counts.length; what++) {
            Check.due("count(" + what + ")", x.count(what), counts[what]);
        }
        Check.due("motif(0, 0)", x.motif(0, 0), 9);
        Check.due("motif(1, 6)", x.motif(1, 6), 1);
        Check.due("motif(1, 7)", x.motif(1, 7), 0);
        Check.due("length()", x.length(), 2);
        Check.due("told(0)", x.told(0), 0);
        Check.due("due(1)", x.due(1), 9);
        Check.due("left(1)", x.left(1), 2);
        Check.due("count(9)", x.count(9), 1);
        Check.due("court() again", x.court(), -4);
        Check.due("end(), the fault cut off", x.end(bad.length() - 9), bad.length() - 9);
        Check.due("court()", x.court(), 3);
        Check.due("back(1)", x.back(1), 0);
        Check.due("motif(1, 6)", x.motif(1, 6), 2);
        x = new TaleCourt();
        Check.due("court(), none ahead of it", Check.court(x, bad), -4);
        Check.due("length()", x.length(), -2);
    }

    private static void faultAsked() {
        Edge.of("5", "Of the latest court(), what 0: its FAULT, 0 without");
        TaleCourt x = new TaleCourt();
        Check.due("fault(0), none was", x.fault(0), 0);
        String[] texts = {"?", "court tellers 9", HEAD + MOTIF.repeat(10)};
        int[] places = {0, 14, 25 + 9 * 14};
        for (int k = 0; k < 3; k++) {
            x.end(0);
            Check.court(x, texts[k]);
            Check.due("fault(0)", x.fault(0), k + 1);
            Check.due("fault(0), asked again", x.fault(0), k + 1);
        }
        x.keep(0);
        x.back(0);
        x.end(0);
        Check.due("fault(0) behind other calls", x.fault(0), 3);
        Check.court(x, HEAD);
        Check.due("fault(0) without", x.fault(0), 0);
        Edge.of("5", "1: its place (NONE without)");
        for (int k = 0; k < 3; k++) {
            x.end(0);
            Check.court(x, texts[k]);
            Check.due("fault(1)", x.fault(1), places[k]);
        }
        x.end(0);
        Check.due("fault(1) behind end()", x.fault(1), places[2]);
        x.court();
        Check.due("fault(1) without", x.fault(1), -1);
        Edge.of("5", "NONE for another what, and ahead of any (what 1)");
        x = new TaleCourt();
        Check.due("fault(1) ahead of any", x.fault(1), -1);
        for (int round = 0; round < 2; round++) {
            int[] wrong = {2, 3, -1, -2, Integer.MIN_VALUE, Integer.MAX_VALUE};
            for (int what : wrong) {
                Check.due("fault(" + what + ")", x.fault(what), -1);
            }
            Check.court(x, "court tellers 9");
        }
    }

    /** Each token of a line is put wrong, and each end too early; what is there already stands ahead of it. */
    private static void form(String there, String... tokens) {
        StringBuilder line = new StringBuilder(there);
        for (int i = 0; i < tokens.length; i++) {
            boolean isNumber = Character.isDigit(tokens[i].charAt(0));
            String stem = line.toString();
            String rest = " " + String.join(" ", tokens);
            Check.bad(stem + "?" + rest, 1, stem.length());
            Check.bad(stem + "zz" + rest, 1, stem.length());
            if (i > 0) {
                Check.bad(stem, 1, stem.length());
            }
            if (!isNumber && !tokens[i].equals(";")) {
                Check.bad(stem + "0 " + rest, 1, stem.length());
                Check.bad(stem + tokens[i] + "s" + rest, 1, stem.length());
                Check.bad(stem + tokens[i].substring(1) + rest, 1, stem.length());
                Check.bad(stem + "x" + tokens[i].substring(1) + rest, 1, stem.length());
                Check.bad(stem + tokens[i].substring(0, tokens[i].length() - 1) + "x" + rest, 1, stem.length());
            }
            boolean mayEnd = i == 0 && !there.isEmpty() && !there.endsWith(";");
            if (!tokens[i].equals(";") && !mayEnd) {
                Check.bad(stem + ";" + rest, 1, stem.length());
            }
            line.append(tokens[i]).append(' ');
        }
        String text = line + (tokens[tokens.length - 1].equals(";") ? "" : ";");
        Check.good(text, (int) text.chars().filter(sign -> sign == ';').count());
    }

    private static void lineForms() {
        Edge.of("I", "COURT: {LINE ;}.");
        Check.good("", 0);
        Check.good(HEAD, 1);
        Check.good(HEAD + MOTIF, 2);
        Check.bad("court tellers 2 silent 1", 1, 24);
        Check.bad(HEAD + "motif worth 1", 1, 38);
        Check.bad(HEAD + ";", 1, 25);
        Check.bad("court tellers 2 silent 1 motif worth 1;", 1, 25);
        Edge.of("I", "LINE: court tellers N silent N | motif worth N {MARK} | join M to M | clash M and M | keeps T M"
            + " | forbid M | listener loves N {M}.");
        form("", "court", "tellers", "2", "silent", "1", ";");
        form(HEAD, "motif", "worth", "1");
        form(HEAD + "motif worth 1 ", "owes", "1", "within", "1", ";");
        form(TWO, "join", "0", "to", "1", ";");
        form(TWO, "clash", "0", "and", "1", ";");
        form(TWO, "keeps", "1", "0", ";");
        form(TWO, "forbid", "0", ";");
        form(TWO, "listener", "loves", "1");
        Check.good(HEAD + "motif worth 1;motif worth 1 song;motif worth 1 song opens;", 4);
        Check.bad(HEAD + "motif worth 1 1;", 1, 39);
        Check.bad(HEAD + "motif worth 1 zz;", 1, 39);
        Check.bad(HEAD + "motif worth 1 ?;", 1, 39);
        Check.good(TWO + "listener loves 1;listener loves 1 0;listener loves 1 0 1;", 6);
        Check.bad(TWO + "listener loves 1 zz;", 1, 70);
        Check.bad(TWO + "listener loves 1 ?;", 1, 70);
        String[] others = {"tellers", "worth", "opens", "owes", "to", "and", "loves", "joins", "keep", "motifs", "a"};
        for (String word : others) {
            Check.bad(TWO + word + " 0 1;", 1, 53);
        }
        Edge.of("I", "court is the first LINE and no other");
        Check.bad(HEAD + HEAD, 1, 25);
        Check.bad(HEAD + MOTIF + "court", 1, 39);
        String[] words = {"motif worth 1;", "join 0 to 1;", "clash 0 and 1;", "keeps 0 0;", "forbid 0;", "listener loves 0;"};
        for (String line : words) {
            Check.bad(line + HEAD, 1, 0);
            Check.bad(" " + line, 1, 1);
        }
    }

    private static void headBounds() {
        Edge.of("I", "tellers 1 .. 3");
        for (int n = 1; n <= 3; n++) {
            TaleCourt x = Check.of("court tellers " + n + " silent 0;");
            Check.due("count(1)", x.count(1), n);
        }
        Check.bad("court tellers 0 silent 0;", 2, 14);
        Check.bad("court tellers 4 silent 0;", 2, 14);
        Edge.of("I", "silent 0 .. 3 (times each)");
        for (int n = 0; n <= 3; n++) {
            TaleCourt x = Check.of("court tellers 3 silent " + n + ";");
            Check.due("count(2)", x.count(2), n);
            for (int t = 0; t < 3; t++) {
                Check.due("left()", x.left(t), n);
            }
            for (int i = 1; i <= 3 * n; i++) {
                Check.due("hush()", x.hush(), i);
            }
            Check.due("hush(), too often", x.hush(), -5);
        }
        Check.bad("court tellers 1 silent 4;", 2, 23);
        Check.bad("court tellers 1 silent 10;", 2, 23);
    }

    private static void motifBounds() {
        Edge.of("I", "worth 0 .. 9");
        for (int n = 0; n <= 9; n++) {
            Check.due("motif(0, 0)", Check.of(HEAD + "motif worth " + n + ";").motif(0, 0), n);
        }
        Check.bad(HEAD + "motif worth 10;", 2, 37);
        Check.bad(HEAD + "motif worth 4294967296;", 2, 37);
        Edge.of("I", "MARK: opens | stranger | song | owes M within N (each once, in any order)");
        String[] marks = {"opens", "stranger", "song", "owes 8 within 7"};
        for (int code = 0; code < 256; code++) {
            int[] picks = {code & 3, code >> 2 & 3, code >> 4 & 3, code >> 6};
            StringBuilder line = new StringBuilder(HEAD + "motif worth 5");
            int there = 0;
            int place = -1;
            for (int pick : picks) {
                if ((there >> pick & 1) != 0 && place < 0) {
                    place = line.length() + 1;
                }
                there |= 1 << pick;
                line.append(' ').append(marks[pick]);
            }
            if (place >= 0) {
                Check.bad(line + ";", 1, place);
            } else {
                TaleCourt x = Check.of(line + ";");
                int[] due = {5, 1, 1, 1, 8, 7};
                for (int what = 0; what < 6; what++) {
                    Check.due("motif(0, " + what + ")", x.motif(0, what), due[what]);
                }
                Check.bad(line + " song;", 1, line.length() + 1);
            }
        }
        Edge.of("I", "M of owes: any of 0 .. 8 (told or not yet, not itself)");
        for (int self = 0; self < 9; self++) {
            for (int m = 0; m < 9; m++) {
                String text = HEAD + MOTIF.repeat(self) + "motif worth 1 owes " + m + " within 1;";
                if (m == self) {
                    Check.bad(text, 2, 25 + 14 * self + 19);
                } else {
                    Check.due("motif(, 4)", Check.of(text).motif(self, 4), m);
                }
            }
        }
        Check.bad(HEAD + "motif worth 1 owes 9 within 1;", 2, 44);
        Edge.of("I", "within 1 .. 9 turns");
        for (int n = 1; n <= 9; n++) {
            Check.due("motif(0, 5)", Check.of(HEAD + "motif worth 1 owes 1 within " + n + ";").motif(0, 5), n);
        }
        Check.bad(HEAD + "motif worth 1 owes 1 within 0;", 2, 53);
        Check.bad(HEAD + "motif worth 1 owes 1 within 10;", 2, 53);
    }

    private static void motifsNamed() {
        Edge.of("I", "Other M: a MOTIF told ahead.");
        for (int n = 0; n < 9; n++) {
            String stem = HEAD + MOTIF.repeat(n);
            int at = stem.length();
            Check.bad(stem + "join " + n + " to 0;" + MOTIF, 2, at + 5);
            Check.bad(stem + "clash " + n + " and 0;" + MOTIF, 2, at + 6);
            Check.bad(stem + "keeps 0 " + n + ";" + MOTIF, 2, at + 8);
            Check.bad(stem + "forbid " + n + ";" + MOTIF, 2, at + 7);
            Check.bad(stem + "listener loves 1 " + n + ";" + MOTIF, 2, at + 17);
            if (n > 0) {
                Check.bad(stem + "join 0 to " + n + ";" + MOTIF, 2, at + 10);
                Check.bad(stem + "clash 0 and " + n + ";" + MOTIF, 2, at + 12);
            }
            Check.good(stem + MOTIF + "keeps 0 " + n + ";forbid " + n + ";listener loves 1 " + n + ";", n + 5);
        }
        Check.bad(HEAD + MOTIF.repeat(9) + "forbid 9;", 2, 25 + 126 + 7);
    }

    private static void pairs() {
        String three = TWO + MOTIF;
        int at = three.length();
        Edge.of("I", "join, clash: of two unlike ones");
        Check.bad(three + "join 1 to 1;", 2, at + 10);
        Check.bad(three + "clash 1 and 1;", 2, at + 12);
        Check.good(three + "join 1 to 2;clash 1 and 2;", 6);
        Edge.of("I", "a join not told already");
        Check.bad(three + "join 0 to 1;join 0 to 1;", 2, at + 12 + 10);
        Check.bad(three + "join 0 to 1;join 2 to 1;join 0 to 2;join 0 to 1;", 2, at + 36 + 10);
        TaleCourt x = Check.of(three + "join 0 to 1;join 1 to 0;");
        Check.due("joins both ways", 2 * x.joins(0, 1) + x.joins(1, 0), 3);
        Check.due("count(3)", x.count(3), 2);
        Edge.of("I", "a clash neither way");
        Check.bad(three + "clash 0 and 1;clash 0 and 1;", 2, at + 14 + 12);
        Check.bad(three + "clash 0 and 1;clash 1 and 0;", 2, at + 14 + 12);
        Check.bad(three + "clash 0 and 1;clash 1 and 2;clash 0 and 2;clash 2 and 1;", 2, at + 42 + 12);
        Check.good(three + "clash 0 and 1;clash 1 and 2;clash 2 and 0;join 0 to 1;", 8);
    }

    private static void keepsAndLoves() {
        Edge.of("I", "keeps: a TELLER 0 .. tellers less 1");
        for (int tellers = 1; tellers <= 3; tellers++) {
            String stem = "court tellers " + tellers + " silent 0;" + MOTIF;
            for (int t = 0; t < tellers; t++) {
                Check.due("motif(0, 6)", Check.of(stem + "keeps " + t + " 0;").motif(0, 6), t);
            }
            Check.bad(stem + "keeps " + tellers + " 0;", 2, stem.length() + 6);
        }
        Edge.of("I", "(a later one of that MOTIF strikes)");
        TaleCourt x = Check.of("court tellers 3 silent 0;" + MOTIF + MOTIF + "keeps 2 0;keeps 0 1;keeps 1 0;keeps 1 0;");
        Check.due("motif(0, 6)", x.motif(0, 6), 1);
        Check.due("motif(1, 6)", x.motif(1, 6), 0);
        Check.due("count(6)", x.count(6), 7);
        x = Check.of("court tellers 2 silent 0;motif worth 1 opens;keeps 1 0;keeps 0 0;");
        Check.due("why(0), struck", x.why(0), 0);
        Edge.of("I", "loves: 0 .. 9 more for each M (unlike ones) of the LINE.");
        for (int n = 0; n <= 9; n++) {
            x = Check.of(TWO + "listener loves " + n + " 1;");
            Check.row(x, 0, 0, 1);
            Check.due("taste()", x.taste(0, 0), 2 + n);
        }
        Check.bad(TWO + "listener loves 10;", 2, 68);
        Check.bad(TWO + "listener loves 1 0 0;", 2, 72);
        Check.bad(TWO + "listener loves 1 0 1 0;", 2, 74);
        x = Check.of(HEAD + MOTIF.repeat(9) + "listener loves 2 8 7 6 5 4 3 2 1 0;listener loves 2;");
        Check.row(x, 0, 0, 1, 2, 3, 4, 5, 6, 7, 8);
        Check.due("taste() of all", x.taste(0, 0), 27);
        Check.due("taste() of none", x.taste(1, 0), 9);
        Check.bad(HEAD + MOTIF.repeat(9) + "listener loves 1 0 1 2 3 4 5 6 7 8 0;", 2, 25 + 126 + 35);
    }

    private static void numbering() {
        Edge.of("I", "MOTIFS 0 .. 8, LISTENERS 0 .. 7 are numbered as they stand.");
        StringBuilder text = new StringBuilder("court tellers 1 silent 0;");
        for (int i = 0; i < 9; i++) {
            text.append("motif worth ").append(9 - i).append(';');
            text.append(i < 8 ? "listener loves " + i + " " + i + ";" : "");
        }
        TaleCourt x = Check.of(text.toString());
        for (int i = 0; i < 9; i++) {
            Check.due("motif(" + i + ", 0)", x.motif(i, 0), 9 - i);
            Check.row(x, 0, i);
            Check.due("taste(" + i + ", 0)", x.taste(i, 0), i < 8 ? 9 : -1000);
        }
        Check.due("motif(9, 0)", x.motif(9, 0), -2);
        Check.due("count(0)", x.count(0), 9);
        Check.due("count(5)", x.count(5), 8);
    }

    private static void tokens() {
        Edge.of("I", "TOKENS, blanks (32, 10) aside");
        for (int b = 0; b < 256; b++) {
            String text = "court" + (char) b + "tellers 2 silent 1;";
            if (b == 32 || b == 10) {
                Check.good(text, 1);
            } else {
                Check.bad(text, 1, b >= 'a' && b <= 'z' ? 0 : 5);
            }
        }
        Check.good("\n\n  court \n tellers\n\n2\nsilent 1 \n ;  \n", 1);
        Edge.of("I", "the longest: words (a .. z), numbers (digits), the sign ; .");
        Check.good("court tellers2silent1;motif worth9opens song;", 2);
        Check.good(HEAD + "motif worth 1owes 1within 1;", 2);
        Check.good("court tellers 0000000000000000000000000000000000000002 silent 000;", 1);
        Check.bad("courttellers 2 silent 1;", 1, 0);
        Check.bad("court tellers 12 silent 1;", 2, 14);
        Check.bad("court tellers 1 2 silent 1;", 1, 16);
        Check.bad("cour t tellers 2 silent 1;", 1, 0);
        Check.bad(HEAD + "motif worth 1 opensong;", 1, 39);
        Check.bad("court tellers 2 silent 1;;", 1, 25);
        for (int b = 0; b < 256; b++) {
            String text = "court tellers 2 silent 1" + (char) b;
            boolean isDigit = b >= '0' && b <= '9';
            boolean isBlank = b == 32 || b == 10;
            if (b == ';') {
                Check.good(text, 1);
            } else {
                Check.bad(text, isDigit ? 2 : 1, isDigit ? 23 : isBlank ? 25 : 24);
            }
            if (isDigit) {
                String number = "court tellers " + (char) b + " silent 1;";
                if (b >= '1' && b <= '3') {
                    Check.good(number, 1);
                } else {
                    Check.bad(number, 2, 14);
                }
            }
        }
        long[] wraps = {1L << 8, 1L << 16, 1L << 31, 1L << 32, 1L << 62};
        for (long wrap : wraps) {
            Check.bad("court tellers " + (wrap + 2) + " silent 1;", 2, 14);
        }
        Check.bad("court tellers 18446744073709551618 silent 1;", 2, 14);
    }

    private static void faultPlaces() {
        Edge.of("I", "FAULTS, the first by its place (a TOKEN's first byte; the end's)");
        Check.bad("court tellers 9 silent 9;?", 2, 14);
        Check.bad("court ? 9 silent 9;", 1, 6);
        Check.bad(HEAD + "motif worth 10 opens opens;", 2, 37);
        Check.bad(HEAD + "motif worth 1 opens opens owes 9 within 0;", 1, 45);
        Check.bad(HEAD + "motif worth 1 owes 9 within 0;", 2, 44);
        Check.bad(TWO + "join 2 to 2;", 2, 58);
        Check.bad(TWO + "keeps 2 2;", 2, 59);
        Check.bad("   courts", 1, 3);
        Check.bad("court tellers 0123 silent 1;", 2, 14);
        Check.bad("court", 1, 5);
        Check.bad("court \n ", 1, 8);
        Check.bad(HEAD + "forbid", 1, 31);
        Check.bad(HEAD + MOTIF + "forbid 0  ", 1, 49);
        Check.bad(" ".repeat(1594) + "court ", 1, 1600);
        Edge.of("I", "of one place the least");
        Check.bad("court 99 2 silent 1;", 1, 6);
        Check.bad(HEAD + MOTIF.repeat(8) + "motif worth 1 motif worth 1;", 1, 25 + 112 + 14);
        Check.bad(HEAD + "listener loves 1;".repeat(7) + "listener loves 1 listener loves 1;", 1, 25 + 119 + 17);
        Check.bad(HEAD + "motif worth 1 99;", 1, 39);
    }

    private static void faultKinds() {
        Edge.of("I", "1 a TOKEN that is none, or can't stand there (court behind the first LINE, another word ahead"
            + " of it; a MARK that is there already).");
        Check.bad("?", 1, 0);
        Check.bad(HEAD + "-", 1, 25);
        Check.bad(HEAD + "Motif worth 1;", 1, 25);
        Check.bad(HEAD + "motif worth -1;", 1, 37);
        Check.bad(HEAD + "7;", 1, 25);
        Check.bad(HEAD + "court tellers 2 silent 1;", 1, 25);
        Check.bad("motif worth 1;" + HEAD, 1, 0);
        Check.bad("opens", 1, 0);
        Check.bad("5", 1, 0);
        Check.bad(";", 1, 0);
        Check.bad(HEAD + "motif worth 1 opens opens;", 1, 45);
        Check.bad(HEAD + "motif worth 1 owes 1 within 1 owes 2 within 2;", 1, 55);
        Check.bad(HEAD + MOTIF + "join 0 to", 1, 48);
        Edge.of("I", "2 a number out of its bounds, not as said.");
        Check.bad("court tellers 4 silent 0;", 2, 14);
        Check.bad("court tellers 1 silent 4;", 2, 23);
        Check.bad(TWO + "join 0 to 0;", 2, 63);
        Check.bad(TWO + "keeps 2 0;", 2, 59);
        Check.bad(TWO + "listener loves 0 0 0;", 2, 72);
        Edge.of("I", "3 a 10th motif, 9th listener, at its word.");
        Check.good(HEAD + MOTIF.repeat(9), 10);
        Check.bad(HEAD + MOTIF.repeat(10), 3, 25 + 126);
        Check.bad(HEAD + MOTIF.repeat(9) + " motif ?", 3, 25 + 127);
        Check.bad(HEAD + MOTIF.repeat(9) + "motif", 3, 25 + 126);
        Check.good(HEAD + "listener loves 1;".repeat(8), 9);
        Check.bad(HEAD + "listener loves 1;".repeat(9), 3, 25 + 136);
        Check.bad(HEAD + "listener loves 1;".repeat(8) + "listener", 3, 25 + 136);
    }
}
