import java.util.ArrayList;
import java.util.HashMap;
import java.util.List;
import java.util.Map;

/** Courts and tales by lot: every answer is compared with the model's. */
public final class ModelTest {
    private static long state = 20261118;

    private static int lot(int n) {
        state = state * 6364136223846793005L + 1442695040888963407L;
        return (int) ((state >>> 33) % n);
    }

    public static void main(String[] args) {
        for (int i = 0; i < 4000; i++) {
            faulty();
        }
        for (int i = 0; i < 700; i++) {
            run();
        }
        Check.finish();
    }

    private static String text() {
        int n = lot(12) == 0 ? 0 : 1 + lot(6);
        int tellers = lot(3) == 0 ? 1 + lot(3) : 2;
        StringBuilder s = new StringBuilder("court tellers " + tellers + " silent " + lot(3) + ";\n");
        int opens = 1 + lot(3);
        int owes = 1 + lot(8);
        int songs = 1 + lot(5);
        for (int m = 0; m < n; m++) {
            s.append("motif worth ").append(lot(10));
            s.append(lot(opens) == 0 ? " opens" : "").append(lot(5) == 0 ? " stranger" : "");
            if (lot(owes) == 0) {
                int o = lot(10) == 0 ? lot(9) : lot(n);
                s.append(o == m ? "" : " owes " + o + " within " + (1 + lot(lot(2) == 0 ? 3 : 9)));
            }
            s.append(lot(songs) == 0 ? " song" : "").append(" ;");
        }
        int density = 1 + lot(4);
        int clashes = 3 + lot(20);
        int keeps = 1 + lot(6);
        for (int a = 0; a < n; a++) {
            for (int b = 0; b < n; b++) {
                s.append(a != b && lot(4) >= density - 1 ? "join " + a + " to " + b + ";" : "");
                s.append(a < b && lot(clashes) == 0 ? "clash " + b + " and " + a + ";" : "");
            }
            s.append(lot(keeps) == 0 ? "keeps " + lot(tellers) + " " + a + ";" : "");
            s.append(lot(6) == 0 ? "forbid " + a + ";" : "");
        }
        int listeners = lot(6);
        for (int l = 0; l < listeners; l++) {
            s.append("listener loves ").append(lot(10));
            for (int m = 0; m < n; m++) {
                s.append(lot(3) == 0 ? " " + m : "");
            }
            s.append(';');
        }
        return s.toString();
    }

    /** A text with some tokens changed: the first fault is where the model has it. */
    private static void faulty() {
        String[] words = {"court", "motif", "worth", "opens", "owes", "within", "join", "to", "clash", "and", "keeps",
            "forbid", "listener", "loves", "song", "stranger", ";", "0", "1", "2", "9", "10", "x", "?", "\t", ""};
        StringBuilder s = new StringBuilder(text());
        for (int i = lot(3); i >= 0 && s.length() > 0; i--) {
            int from = lot(s.length());
            int to = Math.min(s.length(), from + lot(3) * lot(4));
            s.replace(from, to, words[lot(words.length)]);
        }
        if (lot(4) == 0) {
            s.setLength(lot(s.length() + 1));
        }
        if (s.length() > 1580) {
            return;
        }
        TaleCourt x = new TaleCourt();
        Check.tape(x, s.toString());
        try {
            int lines = new Model(s.toString()).lines;
            Check.due("court() of " + s, x.court(), lines);
            Check.due("fault(0) of " + s, x.fault(0), 0);
            Check.due("fault(1) of " + s, x.fault(1), -1);
        } catch (Model.Fault f) {
            Check.due("court() of " + s, x.court(), -4);
            Check.due("fault(0) of " + s, x.fault(0), f.what);
            Check.due("fault(1) of " + s, x.fault(1), f.place);
        }
    }

    private static String where;

    private static void due(String call, long got, long want) {
        Check.due(where + ": " + call, got, want);
    }

    private static void run() {
        String text = text();
        Model model = new Model(text);
        TaleCourt x = new TaleCourt();
        due("court()", Check.court(x, text), model.lines);
        where = text;
        compareCourt(x, model);
        compareTale(x, model);
        compareAll(x, model);
        int turns = lot(7);
        for (int i = 0; i < turns; i++) {
            turn(x, model);
            where = text + " told " + model.tale;
            compareTale(x, model);
            if (lot(3) == 0) {
                compareAll(x, model);
            }
        }
        compareAll(x, model);
        compareRows(x, model);
    }

    private static void turn(TaleCourt x, Model model) {
        int kind = lot(12);
        int n = model.motifs.size();
        if (kind == 0) {
            boolean is = model.tale.isEmpty();
            due("unsay()", x.unsay(), is ? -5 : model.tale.size() - 1);
            if (!is) {
                model.tale.remove(model.tale.size() - 1);
            }
        } else if (kind < 4) {
            boolean may = model.maySilent(model.tale);
            due("hush()", x.hush(), may ? model.tale.size() + 1 : -5);
            if (may) {
                model.tale.add(9);
            }
        } else if (kind == 4 && n > 0) {
            int m = lot(n);
            int teller = lot(model.tellers + 1) - 1;
            due("keeps()", x.keeps(m, teller), model.motifs.get(m).keeper);
            model.motifs.get(m).keeper = teller;
        } else if (kind == 5 && n > 0) {
            int m = lot(n);
            int is = lot(2);
            due("forbid()", x.forbid(m, is), model.motifs.get(m).forbidden ? 1 : 0);
            model.motifs.get(m).forbidden = is == 1;
        } else if (n > 0) {
            int m = lot(n);
            int may = model.may(model.tale);
            while (may != 0 && lot(5) != 0 && (may >> m & 1) == 0) {
                m = lot(n);
            }
            boolean is = (may >> m & 1) != 0;
            due("say()", x.say(m), is ? model.motifs.get(m).points() : -5);
            if (is) {
                model.tale.add(m);
            }
        }
    }

    private static void compareCourt(TaleCourt x, Model model) {
        int n = model.motifs.size();
        int[] counts = {n, model.tellers, model.silences, model.joins.size(), model.clashes.size(),
            model.listeners.size(), model.lines, 0, 0, 0};
        for (int what = 0; what < counts.length; what++) {
            due("count(" + what + ")", x.count(what), counts[what]);
        }
        for (int a = 0; a < n; a++) {
            int behind = 0;
            int ahead = 0;
            for (int b = 0; b < n; b++) {
                due("joins()", x.joins(a, b), model.joined(a, b) ? 1 : 0);
                due("clash()", x.clash(a, b), model.clashing(a, b) ? 1 : 0);
                due("chain()", x.chain(a, b), model.chain(a, b));
                behind |= model.joined(a, b) ? 1 << b : 0;
                ahead |= model.joined(b, a) ? 1 << b : 0;
            }
            due("behind()", x.behind(a), behind);
            due("ahead()", x.ahead(a), ahead);
            due("comes()", x.comes(a), model.comes(a));
            compareMotif(x, a, model.motifs.get(a));
        }
    }

    private static void compareMotif(TaleCourt x, int a, Model.Motif m) {
        int[] due = {m.worth, m.marks.containsKey("opens") ? 1 : 0, m.marks.containsKey("stranger") ? 1 : 0,
            m.marks.containsKey("song") ? 1 : 0, m.owes, m.within, m.keeper, m.forbidden ? 1 : 0, -2};
        for (int what = 0; what < due.length; what++) {
            due("motif(" + a + "," + what + ")", x.motif(a, what), due[what]);
        }
    }

    private static void compareTale(TaleCourt x, Model model) {
        List<Integer> t = model.tale;
        due("length()", x.length(), t.size());
        due("count(8)", x.count(8), t.size());
        due("whose()", x.whose(), t.size() % model.tellers);
        due("may()", x.may(), model.may(t));
        due("owed()", x.owed(), model.owed(t));
        due("whole()", x.whole(), model.whole(t) ? 1 : 0);
        due("points()", x.points(), model.points(t));
        for (int i = -1; i <= t.size(); i++) {
            due("told()", x.told(i), i >= 0 && i < t.size() ? t.get(i) : -1);
        }
        for (int m = 0; m < 9; m++) {
            boolean is = m < model.motifs.size();
            due("why(" + m + ")", x.why(m), is ? model.why(t, m, false) : -2);
            due("due(" + m + ")", x.due(m), is ? model.due(m) : -2);
        }
        for (int teller = 0; teller < 3; teller++) {
            int share = 0;
            for (int i = teller; i < t.size(); i += model.tellers) {
                share += t.get(i) == 9 ? 0 : model.motifs.get(t.get(i)).points();
            }
            due("share()", x.share(teller), teller < model.tellers ? share : -2);
            due("left()", x.left(teller), teller < model.tellers ? model.left(t, teller) : -2);
        }
    }

    private static void compareAll(TaleCourt x, Model model) {
        compareTales(x, model);
        compareGame(x, model);
        int seed = lot(2) == 0 ? lot(100) : lot(2000000001);
        List<Integer> drawn = model.drawn(seed);
        int before = model.tale.size();
        due("drawn(,0)", x.drawn(seed, 0), drawn.size() - before);
        due("drawn(,1)", x.drawn(seed, 1), model.points(drawn));
        due("drawn(,2)", x.drawn(seed, 2), model.whole(drawn) ? 1 : 0);
        for (int i = -1; i <= drawn.size() - before; i++) {
            due("lot()", x.lot(seed, i), i >= 0 && i < drawn.size() - before ? drawn.get(before + i) : -1);
        }
        int n = 1 + lot(20);
        int whole = 0;
        for (int i = 0; i < n; i++) {
            whole += model.whole(model.drawn(seed + i)) ? 1 : 0;
        }
        due("nights()", x.nights(seed, n), whole);
    }

    private static int motifAt(List<Integer> found, int before, int i) {
        return found != null && i >= 0 && before + i < found.size() ? found.get(before + i) : -1;
    }

    private static void compareTales(TaleCourt x, Model model) {
        int before = model.tale.size();
        List<List<Integer>> all = model.tales();
        List<List<Integer>> wholes = new ArrayList<>(all);
        wholes.removeIf(t -> !model.whole(t));
        List<Integer> longest = null;
        List<Integer> best = null;
        int full = -1;
        int[] rows = new int[10];
        for (List<Integer> t : all) {
            longest = longest == null || t.size() > longest.size() ? t : longest;
            rows[t.size() - before]++;
        }
        for (List<Integer> t : wholes) {
            full = Math.max(full, t.size() - before);
            best = best == null || model.points(t) > model.points(best) ? t : best;
        }
        due("longest()", x.longest(), longest.size() - before);
        due("full()", x.full(), full);
        due("wholes()", x.wholes(), wholes.size());
        int most = best == null ? -1 : model.points(best);
        due("best()", x.best(), most);
        for (int i = -1; i <= 9; i++) {
            due("line(" + i + ")", x.line(i), motifAt(longest, before, i));
            due("tale(" + i + ")", x.tale(i), motifAt(best, before, i));
            due("rows(" + i + ")", x.rows(i), i < 0 ? -2 : rows[i]);
        }
        for (int k = 0; k < 4; k++) {
            compareRoof(x, model, wholes, k == 0 ? 0 : k == 1 ? most + lot(2) : lot(most + 2));
        }
        compareMotifs(x, model, wholes, most);
    }

    private static void compareRoof(TaleCourt x, Model model, List<List<Integer>> wholes, int n) {
        if (n < 0) {
            return;
        }
        int before = model.tale.size();
        List<Integer> roof = null;
        for (List<Integer> t : wholes) {
            roof = roof == null && model.points(t) >= n ? t : roof;
        }
        due("roof(" + n + ")", x.roof(n), roof == null ? -1 : roof.size() - before);
        for (int i = -1; i <= 9; i++) {
            due("beam(" + n + "," + i + ")", x.beam(n, i), motifAt(roof, before, i));
        }
    }

    private static void compareMotifs(TaleCourt x, Model model, List<List<Integer>> wholes, int most) {
        int all = wholes.isEmpty() ? 0 : 511;
        int some = 0;
        for (List<Integer> t : wholes) {
            int set = 0;
            for (int m : t) {
                set |= m == 9 ? 0 : 1 << m;
            }
            all &= set;
            some |= set;
        }
        due("always(0)", x.always(0), all);
        due("always(1)", x.always(1), some);
        int crux = -1;
        int mostLack = -1;
        int before = model.tale.size();
        for (int m = 0; m < model.motifs.size(); m++) {
            int motif = m;
            int ends = 0;
            int lack = 0;
            int without = -1;
            for (List<Integer> t : wholes) {
                ends += model.latest(t) == m ? 1 : 0;
                boolean has = t.subList(before, t.size()).contains(motif);
                lack += has ? 1 : 0;
                without = has ? without : Math.max(without, model.points(t));
            }
            due("ends(" + m + ")", x.ends(m), ends);
            boolean was = model.motifs.get(m).forbidden;
            model.motifs.get(m).forbidden = true;
            int fewer = 0;
            for (List<Integer> t : wholes) {
                fewer += model.whole(t) ? 0 : 1;
            }
            model.motifs.get(m).forbidden = was;
            due("around(" + m + ")", x.around(m), fewer);
            due("lack(" + m + ")", x.lack(m), lack);
            due("cost(" + m + ")", x.cost(m), most < 0 || without < 0 ? -1 : most - without);
            crux = lack > mostLack ? m : crux;
            mostLack = Math.max(mostLack, lack);
        }
        due("crux()", x.crux(), crux);
    }

    private static void compareGame(TaleCourt x, Model model) {
        if (model.tellers != 2) {
            due("wins()", x.wins(), -9);
            due("move()", x.move(), -9);
            due("good()", x.good(), -9);
            due("lasts()", x.lasts(), -9);
            due("trade()", x.trade(), -9);
            due("blunder()", x.blunder(), -9);
            return;
        }
        Map<String, Integer> known = new HashMap<>();
        int value = model.game(model.tale, known);
        int move = -1;
        int good = 0;
        for (int m : model.gameMoves(model.tale)) {
            if (model.gameBehind(model.tale, m, known) < 0) {
                move = move < 0 ? m : move;
                good |= 1 << m;
            }
        }
        due("wins()", x.wins(), value > 0 ? 1 : 0);
        due("lasts()", x.lasts(), Math.abs(value) - 1);
        due("move()", x.move(), move);
        due("good()", x.good(), good);
        due("trade()", x.trade(), model.trade());
        due("blunder()", x.blunder(), model.blunder());
        for (int m = 0; m < model.motifs.size(); m++) {
            Model.Motif motif = model.motifs.get(m);
            int was = motif.keeper;
            motif.keeper = lot(3) - 1;
            due("kept(" + m + "," + motif.keeper + ")", x.kept(m, motif.keeper), model.wins() ? 1 : 0);
            motif.keeper = was;
        }
    }

    private static void compareRows(TaleCourt x, Model model) {
        int n = model.motifs.size();
        for (int k = 0; k < 3; k++) {
            compareJudge(x, model);
            if (n >= 2) {
                compareLies(x, model);
                compareVotes(x, model);
            }
            if (n >= 2 && !model.listeners.isEmpty()) {
                compareLiars(x, model);
            }
        }
    }

    private static void compareJudge(TaleCourt x, Model model) {
        List<Integer> t = new ArrayList<>();
        List<Integer> row = new ArrayList<>();
        int reason = 0;
        for (int i = lot(9); i >= 0; i--) {
            int m = lot(10);
            for (int tries = 0; tries < 30 && (m == 9 || m >= model.motifs.size() || model.why(t, m, false) != 0); tries++) {
                m = lot(10);
            }
            row.add(m);
            if (reason == 0) {
                if (m == 9) {
                    reason = model.maySilent(t) ? 0 : 9;
                } else {
                    reason = m < model.motifs.size() ? model.why(t, m, false) : 9;
                }
                if (reason == 0) {
                    t.add(m);
                }
            }
        }
        fill(x, 0, row);
        due("judge " + row, x.judge(0), t.size());
        due("verdict " + row, x.verdict(0), reason);
    }

    private static void fill(TaleCourt x, int slot, List<Integer> row) {
        x.row(slot, lot(4), row.size());
        for (int i = 0; i < row.size(); i++) {
            x.write(slot, i, row.get(i));
        }
    }

    private static List<int[]> pairs(int n, int many) {
        List<int[]> pairs = new ArrayList<>();
        for (int i = 0; i < many; i++) {
            int a = lot(n);
            pairs.add(new int[] {a, (a + 1 + lot(n - 1)) % n});
        }
        return pairs;
    }

    private static void compareLies(TaleCourt x, Model model) {
        int n = model.motifs.size();
        List<int[]> pairs = pairs(n, lot(3) == 0 ? lot(31) : lot(6));
        List<Integer> row = new ArrayList<>();
        for (int[] pair : pairs) {
            row.add(pair[0]);
            row.add(pair[1]);
        }
        fill(x, 1, row);
        int least = Integer.MAX_VALUE;
        int many = 0;
        for (List<Integer> order : Model.orders(n)) {
            int untrue = Model.untrue(order, pairs);
            many = untrue < least ? 1 : untrue == least ? many + 1 : many;
            least = Math.min(least, untrue);
        }
        due("lies " + row, x.lies(1), least);
        due("orders " + row, x.orders(1), many);
        due("fits " + row, x.fits(1), model.fits(pairs));
    }

    private static void compareLiars(TaleCourt x, Model model) {
        int n = model.motifs.size();
        int listeners = model.listeners.size();
        List<int[]> pairs = pairs(n, lot(2) == 0 ? lot(21) : lot(6));
        List<Integer> row = new ArrayList<>();
        List<Integer> by = new ArrayList<>();
        for (int[] pair : pairs) {
            by.add(lot(listeners));
            row.add(by.get(by.size() - 1));
            row.add(pair[0]);
            row.add(pair[1]);
        }
        fill(x, 2, row);
        int who = -1;
        List<List<Integer>> orders = Model.orders(n);
        for (int set = 0; set < 1 << listeners; set++) {
            if (who >= 0 && Integer.bitCount(set) >= Integer.bitCount(who)) {
                continue;
            }
            List<int[]> rest = new ArrayList<>();
            for (int i = 0; i < pairs.size(); i++) {
                if ((set >> by.get(i) & 1) == 0) {
                    rest.add(pairs.get(i));
                }
            }
            who = orders.stream().anyMatch(order -> Model.untrue(order, rest) == 0) ? set : who;
        }
        due("liars " + row, x.liars(2), Integer.bitCount(who));
        due("who " + row, x.who(2), who);
    }

    private static void compareVotes(TaleCourt x, Model model) {
        List<List<Integer>> rows = new ArrayList<>();
        for (int slot = 2; slot < 4; slot++) {
            List<Integer> row = new ArrayList<>();
            for (int i = lot(6); i > 0; i--) {
                row.add(lot(model.motifs.size()));
            }
            fill(x, slot, row);
            rows.add(row);
        }
        int voices = 0;
        for (int l = 0; l < model.listeners.size(); l++) {
            int one = model.taste(model.listeners.get(l), rows.get(0));
            int two = model.taste(model.listeners.get(l), rows.get(1));
            due("taste " + rows, x.taste(l, 2), one);
            due("taste " + rows, x.taste(l, 3), two);
            voices += one > two ? 1 : 0;
        }
        due("votes " + rows, x.votes(2, 3), voices);
    }
}
