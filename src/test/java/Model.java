import java.math.BigInteger;
import java.util.ArrayList;
import java.util.Arrays;
import java.util.Collections;
import java.util.HashMap;
import java.util.HashSet;
import java.util.List;
import java.util.Map;
import java.util.Set;
import java.util.regex.Matcher;
import java.util.regex.Pattern;

/** The document's terms once more, slowly and by their words: every question is worked out from the whole tale. */
final class Model {
    static final class Fault extends RuntimeException {
        private static final long serialVersionUID = 1L;
        final int what;
        final int place;

        Fault(int what, int place) {
            this.what = what;
            this.place = place;
        }
    }

    static final class Motif {
        int worth;
        final Map<String, Integer> marks = new HashMap<>();
        int owes = -1;
        int within = 0;
        int keeper = -1;
        boolean forbidden = false;

        int points() {
            return marks.containsKey("song") ? worth + worth + worth : worth;
        }
    }

    static final class Listener {
        int love;
        final Set<Integer> motifs = new HashSet<>();
    }

    int tellers;
    int silences;
    int lines;
    final List<Motif> motifs = new ArrayList<>();
    final List<Listener> listeners = new ArrayList<>();
    /** Joins as "ahead>behind", clashes as "lesser/greater". */
    final Set<String> joins = new HashSet<>();
    final Set<String> clashes = new HashSet<>();
    List<Integer> tale = new ArrayList<>();

    // Reading

    private static final Pattern TOKEN = Pattern.compile("[ \n]+|([a-z]+)|([0-9]+)|(;)|(.)", Pattern.DOTALL);
    private final List<String> texts = new ArrayList<>();
    private final List<Integer> places = new ArrayList<>();
    private int at = 0;

    Model(String text) {
        Matcher matcher = TOKEN.matcher(text);
        while (matcher.find()) {
            if (!matcher.group().isBlank() || matcher.group(4) != null) {
                texts.add(matcher.group());
                places.add(matcher.start());
            }
        }
        texts.add("");
        places.add(text.length());
        while (!texts.get(at).isEmpty()) {
            readLine();
            word(";");
            lines++;
        }
    }

    private Fault fail(int what) {
        return new Fault(what, places.get(at));
    }

    private void word(String word) {
        if (!texts.get(at).equals(word)) {
            throw fail(1);
        }
        at++;
    }

    private int number(int least, int most) {
        String text = texts.get(at);
        if (!text.matches("[0-9]+")) {
            throw fail(1);
        }
        BigInteger value = new BigInteger(text);
        if (value.compareTo(BigInteger.valueOf(least)) < 0 || value.compareTo(BigInteger.valueOf(most)) > 0) {
            throw fail(2);
        }
        at++;
        return value.intValue();
    }

    private void must(boolean as) {
        if (!as) {
            at--;
            throw fail(2);
        }
    }

    private void readLine() {
        String word = texts.get(at);
        if (lines == 0 != word.equals("court")) {
            throw fail(1);
        }
        if (word.equals("motif") && motifs.size() == 9 || word.equals("listener") && listeners.size() == 8) {
            throw fail(3);
        }
        if (!Arrays.asList("court", "motif", "join", "clash", "keeps", "forbid", "listener").contains(word)) {
            throw fail(1);
        }
        at++;
        int last = motifs.size() - 1;
        if (word.equals("court")) {
            word("tellers");
            tellers = number(1, 3);
            word("silent");
            silences = number(0, 3);
        } else if (word.equals("motif")) {
            readMotif();
        } else if (word.equals("join")) {
            int a = number(0, last);
            word("to");
            int b = number(0, last);
            must(a != b && joins.add(a + ">" + b));
        } else if (word.equals("clash")) {
            int a = number(0, last);
            word("and");
            int b = number(0, last);
            must(a != b && clashes.add(Math.min(a, b) + "/" + Math.max(a, b)));
        } else if (word.equals("keeps")) {
            int teller = number(0, tellers - 1);
            motifs.get(number(0, last)).keeper = teller;
        } else if (word.equals("forbid")) {
            motifs.get(number(0, last)).forbidden = true;
        } else {
            readListener(last);
        }
    }

    private void readMotif() {
        Motif motif = new Motif();
        word("worth");
        motif.worth = number(0, 9);
        while (!texts.get(at).equals(";")) {
            String mark = texts.get(at);
            if (!Arrays.asList("opens", "stranger", "song", "owes").contains(mark) || motif.marks.put(mark, 1) != null) {
                throw fail(1);
            }
            at++;
            if (mark.equals("owes")) {
                motif.owes = number(0, 8);
                must(motif.owes != motifs.size());
                word("within");
                motif.within = number(1, 9);
            }
        }
        motifs.add(motif);
    }

    private void readListener(int last) {
        Listener listener = new Listener();
        word("loves");
        listener.love = number(0, 9);
        while (!texts.get(at).equals(";")) {
            must(listener.motifs.add(number(0, last)));
        }
        listeners.add(listener);
    }

    // The court

    boolean joined(int ahead, int motif) {
        return joins.contains(ahead + ">" + motif);
    }

    boolean clashing(int a, int b) {
        return clashes.contains(Math.min(a, b) + "/" + Math.max(a, b));
    }

    int comes(int motif) {
        int set = 0;
        for (int other = 0; other < motifs.size(); other++) {
            for (int next = 0; next < motifs.size(); next++) {
                if (joined(motif, next) && chain(next, other) > 0) {
                    set |= 1 << other;
                }
            }
        }
        return set;
    }

    int chain(int motif, int other) {
        return chain(motif, other, new HashSet<>());
    }

    private int chain(int motif, int other, Set<Integer> seen) {
        if (motif == other) {
            return 1;
        }
        int best = -1;
        seen.add(motif);
        for (int next = 0; next < motifs.size(); next++) {
            if (joined(motif, next) && !seen.contains(next)) {
                int rest = chain(next, other, seen);
                if (rest > 0 && (best < 0 || rest + 1 < best)) {
                    best = rest + 1;
                }
            }
        }
        seen.remove(motif);
        return best;
    }

    // The tale

    static final int SILENCE = 9;

    int latest(List<Integer> t) {
        for (int i = t.size() - 1; i >= 0; i--) {
            if (t.get(i) != SILENCE) {
                return t.get(i);
            }
        }
        return -1;
    }

    /** Whether a motif told owes one not told though this turn, which tells one more (or 9), is its last. */
    boolean broken(List<Integer> t, int next) {
        for (int i = 0; i < t.size(); i++) {
            if (t.get(i) != SILENCE) {
                Motif m = motifs.get(t.get(i));
                if (m.owes >= 0 && !t.contains(m.owes) && m.owes != next && t.size() >= i + m.within) {
                    return true;
                }
            }
        }
        return false;
    }

    int why(List<Integer> t, int m, boolean inGame) {
        if (t.contains(m)) {
            return 1;
        }
        for (int other : t) {
            if (other != SILENCE && clashing(m, other)) {
                return 2;
            }
        }
        int latest = latest(t);
        if (latest < 0 ? !motifs.get(m).marks.containsKey("opens") : !joined(latest, m)) {
            return 3;
        }
        if (motifs.get(m).marks.containsKey("stranger") && t.size() % 2 == 0) {
            return 4;
        }
        if (!inGame && broken(t, m)) {
            return 5;
        }
        int keeper = motifs.get(m).keeper;
        return keeper >= 0 && keeper != t.size() % tellers ? 6 : 0;
    }

    int left(List<Integer> t, int teller) {
        int left = silences;
        for (int i = 0; i < t.size(); i++) {
            if (i % tellers == teller && t.get(i) == SILENCE) {
                left--;
            }
        }
        return left;
    }

    boolean maySilent(List<Integer> t) {
        return left(t, t.size() % tellers) > 0 && !broken(t, SILENCE);
    }

    int owed(List<Integer> t) {
        int set = 0;
        for (int m : t) {
            if (m != SILENCE && motifs.get(m).owes >= 0 && !t.contains(motifs.get(m).owes)) {
                set |= 1 << motifs.get(m).owes;
            }
        }
        return set;
    }

    int due(int motif) {
        int due = -1;
        for (int i = 0; i < tale.size(); i++) {
            int m = tale.get(i);
            if (m != SILENCE && motifs.get(m).owes == motif && !tale.contains(motif)) {
                int turn = i + motifs.get(m).within;
                due = due < 0 ? turn : Math.min(due, turn);
            }
        }
        return due;
    }

    boolean whole(List<Integer> t) {
        int latest = latest(t);
        return latest >= 0 && owed(t) == 0 && !motifs.get(latest).forbidden;
    }

    int points(List<Integer> t) {
        int sum = 0;
        for (int m : t) {
            sum += m == SILENCE ? 0 : motifs.get(m).points();
        }
        return sum;
    }

    int may(List<Integer> t) {
        int set = 0;
        for (int m = 0; m < motifs.size(); m++) {
            if (why(t, m, false) == 0) {
                set |= 1 << m;
            }
        }
        return set;
    }

    /** All tales from now on, shortest first, of one length by the least row. */
    List<List<Integer>> tales() {
        List<List<Integer>> all = new ArrayList<>();
        all.add(new ArrayList<>(tale));
        for (int i = 0; i < all.size(); i++) {
            for (int m = 0; m < motifs.size(); m++) {
                if (why(all.get(i), m, false) == 0) {
                    List<Integer> more = new ArrayList<>(all.get(i));
                    more.add(m);
                    all.add(more);
                }
            }
        }
        return all;
    }

    // The game

    /** Turns till one has lost: above 0 (and one more) if whose turn it is wins, else below. */
    int game(List<Integer> t, Map<String, Integer> known) {
        List<Integer> sorted = new ArrayList<>(t);
        Collections.sort(sorted);
        String key = sorted + " " + latest(t) + " " + left(t, 0) + " " + left(t, 1);
        Integer answer = known.get(key);
        if (answer == null) {
            int soonest = Integer.MAX_VALUE;
            int latest = 0;
            for (int m : gameMoves(t)) {
                int behind = gameBehind(t, m, known);
                if (behind < 0) {
                    soonest = Math.min(soonest, -behind - 1 + 1);
                } else {
                    latest = Math.max(latest, behind - 1 + 1);
                }
            }
            answer = soonest < Integer.MAX_VALUE ? soonest + 1 : -latest - 1;
            known.put(key, answer);
        }
        return answer;
    }

    int gameBehind(List<Integer> t, int m, Map<String, Integer> known) {
        List<Integer> next = new ArrayList<>(t);
        next.add(m);
        return game(next, known);
    }

    List<Integer> gameMoves(List<Integer> t) {
        List<Integer> moves = new ArrayList<>();
        for (int m = 0; m < motifs.size(); m++) {
            if (why(t, m, true) == 0) {
                moves.add(m);
            }
        }
        if (left(t, t.size() % tellers) > 0) {
            moves.add(SILENCE);
        }
        return moves;
    }

    boolean wins() {
        return game(tale, new HashMap<>()) > 0;
    }

    int trade() {
        if (wins()) {
            return -1;
        }
        for (int a = 0; a < motifs.size(); a++) {
            for (int b = a + 1; b < motifs.size(); b++) {
                Motif one = motifs.get(a);
                Motif two = motifs.get(b);
                int was = one.keeper;
                if (one.keeper >= 0 && two.keeper >= 0 && one.keeper != two.keeper) {
                    one.keeper = two.keeper;
                    two.keeper = was;
                    boolean wins = wins();
                    two.keeper = one.keeper;
                    one.keeper = was;
                    if (wins) {
                        return 10 * a + b;
                    }
                }
            }
        }
        return -1;
    }

    int blunder() {
        Map<String, Integer> known = new HashMap<>();
        for (int t = 0; t < tale.size(); t++) {
            if (game(tale.subList(0, t), known) > 0 && game(tale.subList(0, t + 1), known) > 0) {
                return t;
            }
        }
        return -1;
    }

    // Claims

    static List<List<Integer>> orders(int n) {
        List<List<Integer>> all = new ArrayList<>();
        all.add(new ArrayList<>());
        for (int m = 0; m < n; m++) {
            List<List<Integer>> longer = new ArrayList<>();
            for (List<Integer> order : all) {
                for (int i = 0; i <= order.size(); i++) {
                    List<Integer> next = new ArrayList<>(order);
                    next.add(i, m);
                    longer.add(next);
                }
            }
            all = longer;
        }
        return all;
    }

    static int untrue(List<Integer> order, List<int[]> pairs) {
        int sum = 0;
        for (int[] pair : pairs) {
            sum += order.indexOf(pair[0]) < order.indexOf(pair[1]) ? 0 : 1;
        }
        return sum;
    }

    int fits(List<int[]> pairs) {
        int sum = 0;
        for (List<Integer> t : tales()) {
            boolean fit = whole(t);
            for (int[] pair : pairs) {
                fit &= t.contains(pair[0]) && t.contains(pair[1]) && t.indexOf(pair[0]) < t.indexOf(pair[1]);
            }
            sum += fit ? 1 : 0;
        }
        return sum;
    }

    int taste(Listener listener, List<Integer> row) {
        int sum = 0;
        for (int m : row) {
            sum += motifs.get(m).points() + (listener.motifs.contains(m) ? listener.love : 0);
        }
        return sum;
    }

    List<Integer> drawn(int seed) {
        List<Integer> t = new ArrayList<>(tale);
        BigInteger x = BigInteger.valueOf(seed);
        while (may(t) != 0) {
            List<Integer> open = new ArrayList<>();
            for (int m = 0; m < motifs.size(); m++) {
                if (why(t, m, false) == 0) {
                    open.add(m);
                }
            }
            x = x.multiply(BigInteger.valueOf(1103515245)).add(BigInteger.valueOf(12345)).mod(BigInteger.valueOf(2147483648L));
            t.add(open.get(x.divide(BigInteger.valueOf(65536)).intValueExact() % open.size()));
        }
        return t;
    }
}
