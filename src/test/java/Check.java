/** What the tests share: comparing answers, counting the wrong ones, and telling a court. */
final class Check {
    private static int wrong = 0;
    private static int asked = 0;
    private static String about = "";

    private Check() {
    }

    /** What the answers from now on are about: it stands ahead of each wrong one. */
    static void about(String words) {
        about = words.isEmpty() ? "" : "[" + words + "] ";
    }

    static int asked() {
        return asked;
    }

    static void due(String call, long got, long want) {
        asked++;
        if (got != want) {
            wrong++;
            if (wrong <= 40) {
                System.out.println(about + call + " answered " + got + ", due is " + want);
            }
        }
    }

    /** Ends the test: exit code 1 if an answer was wrong. */
    static void finish() {
        if (wrong != 0) {
            System.out.println(wrong + " of " + asked + " answers are not as due");
            System.exit(1);
        }
        System.out.println(asked + " answers are as due");
    }

    /** Puts a text on the tape behind what is there, filling up the last twenty bytes and cutting them off. */
    static int tape(TaleCourt x, String text) {
        int before = x.count(7);
        for (int i = 0; i < text.length(); i += 20) {
            int[] n = new int[5];
            for (int k = 0; k < 20; k++) {
                int sign = i + k < text.length() ? text.charAt(i + k) : '?';
                n[k / 4] = n[k / 4] << 8 | sign & 255;
            }
            if (x.feed(n[0], n[1], n[2], n[3], n[4]) < 0) {
                return -1;
            }
        }
        return x.end(before + text.length());
    }

    static int court(TaleCourt x, String text) {
        tape(x, text);
        return x.court();
    }

    static TaleCourt of(String text) {
        TaleCourt x = new TaleCourt();
        due("court() of " + text, x.court(), 0);
        int lines = court(x, text);
        if (lines < 1) {
            due("lines of " + text, lines, 1);
        }
        return x;
    }

    /** Motifs that all open and join on to one another, so that nothing but their marks holds a tale back. */
    static TaleCourt allJoined(String head, String... motifs) {
        StringBuilder text = new StringBuilder(head);
        for (String motif : motifs) {
            text.append("motif worth ").append(motif).append(" opens;");
        }
        for (int a = 0; a < motifs.length; a++) {
            for (int b = 0; b < motifs.length; b++) {
                text.append(a == b ? "" : "join " + a + " to " + b + ";");
            }
        }
        return of(text.toString());
    }

    static void good(String text, int lines) {
        TaleCourt x = new TaleCourt();
        tape(x, text);
        due("court() of " + text, x.court(), lines);
        due("fault(0) of " + text, x.fault(0), 0);
        due("fault(1) of " + text, x.fault(1), -1);
        due("count(6) of " + text, x.count(6), lines);
        due("count(7) of " + text, x.count(7), 0);
    }

    static void bad(String text, int fault, int place) {
        TaleCourt x = new TaleCourt();
        tape(x, text);
        due("court() of " + text, x.court(), -4);
        due("fault(0) of " + text, x.fault(0), fault);
        due("fault(1) of " + text, x.fault(1), place);
        due("fault(2) of " + text, x.fault(2), -1);
    }

    /** A slot has a row of these numbers, eight bytes each. */
    static void row(TaleCourt x, int slot, long... numbers) {
        due("row()", x.row(slot, 3, numbers.length), 0);
        for (int i = 0; i < numbers.length; i++) {
            due("write()", x.write(slot, i, numbers[i]), 0);
        }
    }
}
