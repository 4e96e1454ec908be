/** What the tests share: comparing answers, counting the wrong ones, and telling a court. */
final class Check {
    private static int wrong = 0;
    private static int asked = 0;

    private Check() {
    }

    static void due(String call, long got, long want) {
        asked++;
        if (got != want) {
            wrong++;
            if (wrong <= 40) {
                System.out.println(call + " answered " + got + ", due is " + want);
            }
        }
    }

    /** Ends the test: exit code 1 if an answer was wrong. */
    static void finish() {
        if (wrong != 0) {
            System.out.println(wrong + " of " + asked + " answers are not as due");
            System.exit(1);
        }
        System.out.println(asked + " answers are as due");
    }

    /** Puts a text on the tape behind what is there, filling up the last twenty bytes and cutting them off. */
    static int tape(TaleCourt x, String text) {
        int before = x.count(7);
        for (int i = 0; i < text.length(); i += 20) {
            int[] n = new int[5];
            for (int k = 0; k < 20; k++) {
                int sign = i + k < text.length() ? text.charAt(i + k) : '?';
                n[k / 4] = n[k / 4] << 8 | sign & 255;
            }
            if (x.feed(n[0], n[1], n[2], n[3], n[4]) < 0) {
                return -1;
            }
        }
        return x.end(before + text.length());
    }

    static int court(TaleCourt x, String text) {
        tape(x, text);
        return x.court();
    }

    static TaleCourt of(String text) {
        TaleCourt x = new TaleCourt();
        due("court() of " + text, x.court(), 0);
        int lines = court(x, text);
        if (lines < 1) {
            due("lines of " + text, lines, 1);
        }
        return x;
    }

    /** A slot has a row of these numbers, eight bytes each. */
    static void row(TaleCourt x, int slot, long... numbers) {
        due("row()", x.row(slot, 3, numbers.length), 0);
        for (int i = 0; i < numbers.length; i++) {
            due("write()", x.write(slot, i, numbers[i]), 0);
        }
    }
}
