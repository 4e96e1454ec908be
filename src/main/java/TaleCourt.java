import java.util.Arrays;

/** The judge of tales. The document DOC.md says, promise by promise, what each call answers. */
public final class TaleCourt {
    public static final int NONE = -1;

    private static final int NO_SUCH = -2;
    private static final int BELOW = -3;
    private static final int FAULTY = -4;
    private static final int REFUSED = -5;
    private static final int NOTHING = -6;
    private static final int BEYOND = -7;
    private static final int UNLIKE = -8;
    private static final int NOT_TWO = -9;
    private static final int NO_TASTE = -1000;
    private static final int NOTHING_TO_TASTE = -6000;

    private static final int MOTIFS = 9;
    private static final int SETS = 512;
    private static final int TELLERS = 3;
    private static final int SILENCES = 3;
    private static final int LISTENERS = 8;
    private static final int TURNS = MOTIFS + TELLERS * SILENCES;
    private static final int SILENCE = 9;
    private static final int NO_MOTIF = 9;
    private static final int TAPE = 1600;
    private static final int NUMBERS = 60;
    private static final int SLOTS = 4;
    private static final int WIDTHS = 4;
    private static final int IMAGES = 3;
    private static final int SEED_MOST = 2000000000;
    private static final int NIGHTS_MOST = 20;

    private final Reader reader = new Reader();
    private final Court court = new Court();
    private final Court draft = new Court();
    private final Telling now = new Telling(court);
    private final Telling trial = new Telling(court);
    private final Claims claims = new Claims();
    private final Survey survey = new Survey(court, claims);
    private final Game game = new Game(court);
    private final Row[] slots = new Row[SLOTS];
    private final Image[] images = new Image[IMAGES];

    public TaleCourt() {
        for (int i = 0; i < SLOTS; i++) {
            slots[i] = new Row();
        }
        for (int i = 0; i < IMAGES; i++) {
            images[i] = new Image();
        }
    }

    // The text of a court

    public int feed(int a, int b, int c, int d, int e) {
        if (reader.size + 20 > TAPE) {
            return NONE;
        }
        reader.append(a);
        reader.append(b);
        reader.append(c);
        reader.append(d);
        reader.append(e);
        return reader.size;
    }

    public int end(int n) {
        if (n < 0 || n > reader.size) {
            return NONE;
        }
        reader.size = n;
        return n;
    }

    public int court() {
        if (!reader.read(draft)) {
            return FAULTY;
        }
        reader.size = 0;
        court.copyFrom(draft);
        now.clear();
        return court.lines;
    }

    public int fault(int what) {
        if (what == 0) {
            return reader.fault;
        }
        return what == 1 ? reader.place : NONE;
    }

    // The court

    public int motif(int motif, int what) {
        if (!court.hasMotif(motif)) {
            return NO_SUCH;
        }
        switch (what) {
            case 0: return court.worth[motif];
            case 1: return court.opening >> motif & 1;
            case 2: return court.strange >> motif & 1;
            case 3: return court.sung >> motif & 1;
            case 4: return court.owes[motif];
            case 5: return court.within[motif];
            case 6: return court.keeper[motif];
            case 7: return court.forbidden >> motif & 1;
            default: return NO_SUCH;
        }
    }

    public int joins(int ahead, int motif) {
        if (!court.hasMotif(ahead) || !court.hasMotif(motif)) {
            return NO_SUCH;
        }
        return court.followers[ahead] >> motif & 1;
    }

    public int clash(int motif, int other) {
        if (!court.hasMotif(motif) || !court.hasMotif(other)) {
            return NO_SUCH;
        }
        return court.rivals[motif] >> other & 1;
    }

    public int behind(int motif) {
        return court.hasMotif(motif) ? court.followers[motif] : NO_SUCH;
    }

    public int ahead(int motif) {
        return court.hasMotif(motif) ? court.leaders(motif) : NO_SUCH;
    }

    public int comes(int motif) {
        return court.hasMotif(motif) ? court.reached(motif) : NO_SUCH;
    }

    public int chain(int motif, int other) {
        if (!court.hasMotif(motif) || !court.hasMotif(other)) {
            return NO_SUCH;
        }
        return court.shortestChain(motif, other);
    }

    // The tale

    public int say(int motif) {
        if (!court.hasMotif(motif)) {
            return NO_SUCH;
        }
        if (now.reason(motif) != 0) {
            return REFUSED;
        }
        now.tell(motif);
        return court.value(motif);
    }

    public int hush() {
        if (!court.stands()) {
            return NO_SUCH;
        }
        if (!now.mayBeSilent()) {
            return REFUSED;
        }
        now.pass();
        return now.count;
    }

    public int unsay() {
        if (!court.stands()) {
            return NO_SUCH;
        }
        if (now.count == 0) {
            return REFUSED;
        }
        now.takeBack();
        return now.count;
    }

    public int anew() {
        if (!court.stands()) {
            return NO_SUCH;
        }
        int turns = now.count;
        now.clear();
        return turns;
    }

    public int told(int i) {
        if (!court.stands()) {
            return NO_SUCH;
        }
        return i >= 0 && i < now.count && i < TURNS ? now.turns[i] : NONE;
    }

    public int length() {
        return court.stands() ? now.count : NO_SUCH;
    }

    public int whose() {
        return court.stands() ? now.teller() : NO_SUCH;
    }

    public int may() {
        return court.stands() ? now.tellable() : NO_SUCH;
    }

    public int why(int motif) {
        return court.hasMotif(motif) ? now.reason(motif) : NO_SUCH;
    }

    public int owed() {
        return court.stands() ? now.unpaid() : NO_SUCH;
    }

    public int due(int motif) {
        if (!court.hasMotif(motif)) {
            return NO_SUCH;
        }
        return (now.unpaid() >> motif & 1) != 0 ? now.dueTurn[motif] : NONE;
    }

    public int whole() {
        if (!court.stands()) {
            return NO_SUCH;
        }
        return now.isWhole() ? 1 : 0;
    }

    public int points() {
        return court.stands() ? now.total : NO_SUCH;
    }

    public int share(int teller) {
        return court.hasTeller(teller) ? now.shareOf(teller) : NO_SUCH;
    }

    public int left(int teller) {
        return court.hasTeller(teller) ? now.silencesLeft(teller) : NO_SUCH;
    }

    // What can come of the tale

    public int longest() {
        return court.stands() ? survey.ask(now, Survey.LONGEST, 0, 0) : NO_SUCH;
    }

    public int full() {
        return court.stands() ? survey.ask(now, Survey.FULL, 0, 0) : NO_SUCH;
    }

    public int line(int i) {
        return court.stands() ? survey.askRow(now, Survey.LONGEST, 0, i) : NO_SUCH;
    }

    public int best() {
        return court.stands() ? survey.ask(now, Survey.BEST, 0, 0) : NO_SUCH;
    }

    public int tale(int i) {
        if (!court.stands()) {
            return NO_SUCH;
        }
        int most = survey.ask(now, Survey.BEST, 0, 0);
        return most < 0 ? NONE : survey.askRow(now, Survey.ROOF, most, i);
    }

    public int roof(int n) {
        return court.stands() && n >= 0 ? survey.ask(now, Survey.ROOF, n, 0) : NO_SUCH;
    }

    public int beam(int n, int i) {
        return court.stands() && n >= 0 ? survey.askRow(now, Survey.ROOF, n, i) : NO_SUCH;
    }

    public int rows(int n) {
        return court.stands() && n >= 0 && n <= MOTIFS ? survey.ask(now, Survey.ROWS, n, 0) : NO_SUCH;
    }

    public int wholes() {
        return court.stands() ? wholesWithout(0) : NO_SUCH;
    }

    /** Whole tales from now on that tell none of a set any more. */
    private int wholesWithout(int set) {
        return survey.ask(now, Survey.WHOLES, 0, set);
    }

    public int ends(int motif) {
        return court.hasMotif(motif) ? survey.ask(now, Survey.ENDS, motif, 0) : NO_SUCH;
    }

    public int always(int what) {
        if (!court.stands() || what < 0 || what > 1) {
            return NO_SUCH;
        }
        int all = wholesWithout(0);
        if (all == 0) {
            return 0;
        }
        int set = now.toldSet;
        for (int m = 0; m < court.motifs; m++) {
            int without = wholesWithout(1 << m);
            if (what == 0 ? without == 0 : without < all) {
                set |= 1 << m;
            }
        }
        return set;
    }

    /** A whole tale is lost by a forbidden ending if it ends so. */
    public int around(int motif) {
        return ends(motif);
    }

    public int lack(int motif) {
        return court.hasMotif(motif) ? wholesWithout(0) - wholesWithout(1 << motif) : NO_SUCH;
    }

    public int crux() {
        if (!court.stands()) {
            return NO_SUCH;
        }
        int first = NONE;
        int least = 0;
        for (int m = 0; m < court.motifs; m++) {
            int without = wholesWithout(1 << m);
            if (first < 0 || without < least) {
                least = without;
                first = m;
            }
        }
        return first;
    }

    public int cost(int motif) {
        if (!court.hasMotif(motif)) {
            return NO_SUCH;
        }
        int most = survey.ask(now, Survey.BEST, 0, 0);
        int without = survey.ask(now, Survey.BEST, 0, 1 << motif);
        return most < 0 || without < 0 ? NONE : most - without;
    }

    // The game of two

    private int gameBar() {
        if (!court.stands()) {
            return NO_SUCH;
        }
        return court.tellers == 2 ? 0 : NOT_TWO;
    }

    public int wins() {
        int bar = gameBar();
        if (bar != 0) {
            return bar;
        }
        game.begin(now, true);
        return game.isWon() ? 1 : 0;
    }

    public int move() {
        int bar = gameBar();
        if (bar != 0) {
            return bar;
        }
        game.begin(now, true);
        int winning = game.winningMoves();
        for (int m = 0; m <= SILENCE; m++) {
            if ((winning >> m & 1) != 0) {
                return m;
            }
        }
        return NONE;
    }

    public int lasts() {
        int bar = gameBar();
        if (bar != 0) {
            return bar;
        }
        game.begin(now, false);
        return game.turnsToEnd();
    }

    public int good() {
        int bar = gameBar();
        if (bar != 0) {
            return bar;
        }
        game.begin(now, true);
        return game.winningMoves();
    }

    public int kept(int motif, int teller) {
        int bar = gameBar();
        if (bar != 0) {
            return bar;
        }
        if (!court.hasMotif(motif) || !court.mayKeep(teller)) {
            return NO_SUCH;
        }
        int keeper = court.keeper[motif];
        court.setKeeper(motif, teller);
        game.begin(now, true);
        boolean won = game.isWon();
        court.setKeeper(motif, keeper);
        return won ? 1 : 0;
    }

    public int trade() {
        int bar = gameBar();
        if (bar != 0) {
            return bar;
        }
        game.begin(now, true);
        if (game.isWon()) {
            return NONE;
        }
        for (int a = 0; a < court.motifs; a++) {
            for (int b = a + 1; b < court.motifs; b++) {
                if (tradeWins(a, b)) {
                    return 10 * a + b;
                }
            }
        }
        return NONE;
    }

    private boolean tradeWins(int a, int b) {
        int first = court.keeperOf(a);
        int second = court.keeperOf(b);
        if (first < 0 || second < 0 || first == second) {
            return false;
        }
        court.setKeeper(a, second);
        court.setKeeper(b, first);
        game.begin(now, true);
        boolean won = game.isWon();
        court.setKeeper(a, first);
        court.setKeeper(b, second);
        return won;
    }

    public int blunder() {
        int bar = gameBar();
        if (bar != 0) {
            return bar;
        }
        return game.firstBlunder(now);
    }

    // Changes of the court

    public int keeps(int motif, int teller) {
        if (!court.hasMotif(motif) || !court.mayKeep(teller)) {
            return NO_SUCH;
        }
        int keeper = court.keeper[motif];
        court.setKeeper(motif, teller);
        return keeper;
    }

    public int forbid(int motif, int is) {
        if (!court.hasMotif(motif) || is < 0 || is > 1) {
            return NO_SUCH;
        }
        int was = court.forbidden >> motif & 1;
        court.forbidden = court.forbidden & ~(1 << motif) | is << motif;
        return was;
    }

    // Rows that are judged

    private static boolean isSlot(int slot) {
        return slot >= 0 && slot < SLOTS;
    }

    private int slotBar(int slot) {
        if (!isSlot(slot) || !court.stands()) {
            return NO_SUCH;
        }
        return slots[slot].size < 0 ? NOTHING : 0;
    }

    public int judge(int slot) {
        int bar = slotBar(slot);
        if (bar != 0) {
            return bar;
        }
        retell(slots[slot]);
        return trial.count;
    }

    public int verdict(int slot) {
        int bar = slotBar(slot);
        return bar != 0 ? bar : retell(slots[slot]);
    }

    /** Tells a row from the start, as far as it may be; answers why its next turn may not be. */
    private int retell(Row row) {
        trial.clear();
        for (int i = 0; i < row.size && i < NUMBERS; i++) {
            int reason = retellTurn(row.numbers[i]);
            if (reason != 0) {
                return reason;
            }
        }
        return 0;
    }

    private int retellTurn(long number) {
        if (number == SILENCE) {
            if (!trial.mayBeSilent()) {
                return NO_MOTIF;
            }
            trial.pass();
            return 0;
        }
        if (!court.hasNumber(number)) {
            return NO_MOTIF;
        }
        int motif = (int) number;
        int reason = trial.reason(motif);
        if (reason == 0) {
            trial.tell(motif);
        }
        return reason;
    }

    private int claimsBar(int slot, int step) {
        int bar = slotBar(slot);
        if (bar != 0) {
            return bar;
        }
        return claims.take(slots[slot], step, court) ? 0 : NO_SUCH;
    }

    public int lies(int slot) {
        int bar = claimsBar(slot, 2);
        if (bar != 0) {
            return bar;
        }
        claims.order(court.motifs);
        return claims.fewestUntrue(court.motifs);
    }

    public int orders(int slot) {
        int bar = claimsBar(slot, 2);
        if (bar != 0) {
            return bar;
        }
        claims.order(court.motifs);
        return claims.ordersSoFew(court.motifs);
    }

    public int fits(int slot) {
        int bar = claimsBar(slot, 2);
        if (bar != 0) {
            return bar;
        }
        return claims.allowTale(now) ? survey.ask(now, Survey.FITS, 0, 0) : 0;
    }

    public int liars(int slot) {
        int bar = claimsBar(slot, 3);
        return bar != 0 ? bar : Integer.bitCount(claims.fewestLiars(court.listeners));
    }

    public int who(int slot) {
        int bar = claimsBar(slot, 3);
        return bar != 0 ? bar : claims.fewestLiars(court.listeners);
    }

    public int votes(int slot, int other) {
        if (!isSlot(slot) || !isSlot(other) || !court.stands()) {
            return NO_SUCH;
        }
        Row one = slots[slot];
        Row two = slots[other];
        if (one.size < 0 || two.size < 0) {
            return NOTHING;
        }
        if (!one.isOfMotifs(court) || !two.isOfMotifs(court)) {
            return NO_SUCH;
        }
        int voices = 0;
        for (int l = 0; l < court.listeners; l++) {
            if (one.tasteFor(court, l) > two.tasteFor(court, l)) {
                voices++;
            }
        }
        return voices;
    }

    public int taste(int listener, int slot) {
        if (!isSlot(slot) || !court.hasListener(listener)) {
            return NO_TASTE;
        }
        Row row = slots[slot];
        if (row.size < 0) {
            return NOTHING_TO_TASTE;
        }
        return row.isOfMotifs(court) ? row.tasteFor(court, listener) : NO_TASTE;
    }

    // Tales drawn

    private boolean mayDraw(int seed) {
        return court.stands() && seed >= 0 && seed <= SEED_MOST;
    }

    private void drawFrom(int seed) {
        trial.copyFrom(now);
        long x = seed;
        for (int i = 0; i < MOTIFS; i++) {
            int open = trial.tellable();
            int many = Integer.bitCount(open);
            if (many == 0) {
                return;
            }
            x = 1103515245L * x + 12345L & 2147483647L;
            trial.tell(bitAt(open, (int) (x / 65536L % many)));
        }
    }

    private static int bitAt(int set, int place) {
        int left = place;
        for (int m = 0; m < MOTIFS; m++) {
            if ((set >> m & 1) != 0) {
                if (left == 0) {
                    return m;
                }
                left--;
            }
        }
        return NONE;
    }

    public int drawn(int seed, int what) {
        if (!mayDraw(seed) || what < 0 || what > 2) {
            return NO_SUCH;
        }
        drawFrom(seed);
        if (what == 0) {
            return trial.count - now.count;
        }
        if (what == 1) {
            return trial.total;
        }
        return trial.isWhole() ? 1 : 0;
    }

    public int lot(int seed, int i) {
        if (!mayDraw(seed)) {
            return NO_SUCH;
        }
        drawFrom(seed);
        if (i < 0 || i >= trial.count - now.count || now.count + i >= TURNS) {
            return NONE;
        }
        return trial.turns[now.count + i];
    }

    public int nights(int seed, int n) {
        if (!mayDraw(seed) || n < 1 || n > NIGHTS_MOST) {
            return NO_SUCH;
        }
        int wholeOnes = 0;
        for (int i = 0; i < n; i++) {
            drawFrom(seed + i);
            if (trial.isWhole()) {
                wholeOnes++;
            }
        }
        return wholeOnes;
    }

    // Counts, images, slots

    public int count(int what) {
        switch (what) {
            case 0: return court.motifs;
            case 1: return court.tellers;
            case 2: return court.silences;
            case 3: return court.joinings;
            case 4: return court.clashings;
            case 5: return court.listeners;
            case 6: return court.lines;
            case 7: return reader.size;
            case 8: return now.count;
            case 9: return slotsInUse();
            default: return NONE;
        }
    }

    private int slotsInUse() {
        int used = 0;
        for (int i = 0; i < SLOTS; i++) {
            if (slots[i].size >= 0) {
                used++;
            }
        }
        return used;
    }

    public int keep(int k) {
        if (k < 0 || k >= IMAGES) {
            return NO_SUCH;
        }
        Image image = images[k];
        image.court.copyFrom(court);
        image.tale.copyFrom(now);
        image.isKept = true;
        return 0;
    }

    public int back(int k) {
        if (k < 0 || k >= IMAGES) {
            return NO_SUCH;
        }
        Image image = images[k];
        if (!image.isKept) {
            return NOTHING;
        }
        court.copyFrom(image.court);
        now.copyFrom(image.tale);
        return 0;
    }

    public int row(int slot, int width, int n) {
        if (!isSlot(slot) || width < 0 || width >= WIDTHS || n > NUMBERS) {
            return NO_SUCH;
        }
        if (n < 0) {
            return BELOW;
        }
        slots[slot].begin(width, n);
        return 0;
    }

    public int write(int slot, int i, long v) {
        if (!isSlot(slot)) {
            return NO_SUCH;
        }
        Row row = slots[slot];
        if (row.size < 0) {
            return NOTHING;
        }
        if (i < 0 || i >= row.size) {
            return BEYOND;
        }
        row.put(i, v);
        return 0;
    }

    public int paste(int slot, int i, int to, int k, int n) {
        if (!isSlot(slot) || !isSlot(to)) {
            return NO_SUCH;
        }
        Row from = slots[slot];
        Row into = slots[to];
        if (from.size < 0 || into.size < 0) {
            return NOTHING;
        }
        if (from.width != into.width) {
            return UNLIKE;
        }
        if (!from.holds(i, n) || !into.holds(k, n)) {
            return BEYOND;
        }
        if (n > 0) {
            System.arraycopy(from.numbers, i, into.numbers, k, n);
        }
        return 0;
    }

    /** A court as its text tells it; sets of motifs are bits. */
    private static final class Court {
        int tellers;
        int silences;
        int motifs;
        int listeners;
        int lines;
        int joinings;
        int clashings;
        int opening;
        int strange;
        int sung;
        int forbidden;
        final int[] worth = new int[MOTIFS];
        final int[] owes = new int[MOTIFS];
        final int[] within = new int[MOTIFS];
        final int[] keeper = new int[MOTIFS];
        final int[] followers = new int[MOTIFS];
        final int[] rivals = new int[MOTIFS];
        /** For each teller the motifs that others keep: asked at every step of a search. */
        final int[] barred = new int[TELLERS];
        final int[] love = new int[LISTENERS];
        final int[] loved = new int[LISTENERS];

        void clear() {
            tellers = 0;
            silences = 0;
            motifs = 0;
            listeners = 0;
            lines = 0;
            joinings = 0;
            clashings = 0;
            opening = 0;
            strange = 0;
            sung = 0;
            forbidden = 0;
            Arrays.fill(worth, 0);
            Arrays.fill(owes, NONE);
            Arrays.fill(within, 0);
            Arrays.fill(keeper, NONE);
            Arrays.fill(followers, 0);
            Arrays.fill(rivals, 0);
            Arrays.fill(barred, 0);
            Arrays.fill(love, 0);
            Arrays.fill(loved, 0);
        }

        void copyFrom(Court other) {
            tellers = other.tellers;
            silences = other.silences;
            motifs = other.motifs;
            listeners = other.listeners;
            lines = other.lines;
            joinings = other.joinings;
            clashings = other.clashings;
            opening = other.opening;
            strange = other.strange;
            sung = other.sung;
            forbidden = other.forbidden;
            System.arraycopy(other.worth, 0, worth, 0, MOTIFS);
            System.arraycopy(other.owes, 0, owes, 0, MOTIFS);
            System.arraycopy(other.within, 0, within, 0, MOTIFS);
            System.arraycopy(other.keeper, 0, keeper, 0, MOTIFS);
            System.arraycopy(other.followers, 0, followers, 0, MOTIFS);
            System.arraycopy(other.rivals, 0, rivals, 0, MOTIFS);
            System.arraycopy(other.barred, 0, barred, 0, TELLERS);
            System.arraycopy(other.love, 0, love, 0, LISTENERS);
            System.arraycopy(other.loved, 0, loved, 0, LISTENERS);
        }

        boolean stands() {
            return lines > 0;
        }

        boolean hasMotif(int motif) {
            return motif >= 0 && motif < motifs && motif < MOTIFS;
        }

        boolean hasNumber(long number) {
            return number >= 0L && number < motifs && number < MOTIFS;
        }

        boolean hasTeller(int teller) {
            return teller >= 0 && teller < tellers && teller < TELLERS;
        }

        boolean mayKeep(int teller) {
            return teller == NONE || hasTeller(teller);
        }

        boolean hasListener(int listener) {
            return listener >= 0 && listener < listeners && listener < LISTENERS;
        }

        int keeperOf(int motif) {
            return hasMotif(motif) ? keeper[motif] : NONE;
        }

        void setKeeper(int motif, int teller) {
            if (motif < 0 || motif >= MOTIFS) {
                return;
            }
            keeper[motif] = teller;
            for (int t = 0; t < TELLERS; t++) {
                boolean isOthers = teller != NONE && teller != t;
                barred[t] = barred[t] & ~(1 << motif) | (isOthers ? 1 << motif : 0);
            }
        }

        int value(int motif) {
            if (motif < 0 || motif >= MOTIFS) {
                return 0;
            }
            return (sung >> motif & 1) != 0 ? 3 * worth[motif] : worth[motif];
        }

        int leaders(int motif) {
            int set = 0;
            for (int m = 0; m < MOTIFS; m++) {
                set |= (followers[m] >> motif & 1) << m;
            }
            return set;
        }

        private int followersOfSet(int set) {
            int behind = 0;
            for (int m = 0; m < MOTIFS; m++) {
                if ((set >> m & 1) != 0) {
                    behind |= followers[m];
                }
            }
            return behind;
        }

        int reached(int motif) {
            int set = followersOfSet(1 << motif);
            for (int i = 0; i < MOTIFS; i++) {
                set |= followersOfSet(set);
            }
            return set;
        }

        int shortestChain(int motif, int other) {
            int set = 1 << motif;
            for (int size = 1; size <= MOTIFS; size++) {
                if ((set >> other & 1) != 0) {
                    return size;
                }
                set |= followersOfSet(set);
            }
            return NONE;
        }
    }

    /** The tape, and the reading of it into a court up to the first fault. */
    private static final class Reader {
        private static final int END = 0;
        private static final int BLANK = 1;
        private static final int WORD = 2;
        private static final int NUMBER = 3;
        private static final int SIGN = 4;
        private static final int BAD = 5;
        /** Above every bound, so that long numbers cannot wrap around into one. */
        private static final int HUGE = 1000;

        int size;
        int fault;
        int place = NONE;
        private final byte[] bytes = new byte[TAPE];
        private int start;
        private int stop;
        private int kind;

        void append(int four) {
            if (size + 4 > TAPE || size < 0) {
                return;
            }
            for (int shift = 24; shift >= 0; shift -= 8) {
                bytes[size] = (byte) (four >> shift);
                size++;
            }
        }

        boolean read(Court court) {
            court.clear();
            fault = 0;
            place = NONE;
            stop = 0;
            step();
            for (int i = 0; i <= TAPE && fault == 0 && kind != END; i++) {
                readLine(court);
            }
            return fault == 0;
        }

        private void readLine(Court court) {
            if (court.lines == 0) {
                readHead(court);
            } else if (isWord("motif")) {
                readMotif(court);
            } else if (isWord("join")) {
                readJoin(court);
            } else if (isWord("clash")) {
                readClash(court);
            } else if (isWord("keeps")) {
                readKeeps(court);
            } else if (isWord("forbid")) {
                step();
                court.forbidden |= 1 << takeNumber(0, court.motifs - 1, 0);
            } else if (isWord("listener")) {
                readListener(court);
            } else {
                fail(1);
            }
            if (fault == 0 && kind != SIGN) {
                fail(1);
            }
            step();
            court.lines++;
        }

        private void readHead(Court court) {
            takeWord("court");
            takeWord("tellers");
            court.tellers = takeNumber(1, TELLERS, 0);
            takeWord("silent");
            court.silences = takeNumber(0, SILENCES, 0);
        }

        private void readMotif(Court court) {
            int motif = court.motifs;
            if (motif >= MOTIFS) {
                fail(3);
                return;
            }
            step();
            takeWord("worth");
            court.worth[motif] = takeNumber(0, 9, 0);
            // Four marks, each once, and one time more for the mark that is too many.
            for (int i = 0; i <= 4 && fault == 0 && kind != SIGN; i++) {
                readMark(court, motif);
            }
            court.motifs++;
        }

        private void readMark(Court court, int motif) {
            int bit = 1 << motif;
            if (isWord("opens") && (court.opening & bit) == 0) {
                court.opening |= bit;
                step();
            } else if (isWord("stranger") && (court.strange & bit) == 0) {
                court.strange |= bit;
                step();
            } else if (isWord("song") && (court.sung & bit) == 0) {
                court.sung |= bit;
                step();
            } else if (isWord("owes") && court.owes[motif] == NONE) {
                step();
                court.owes[motif] = takeNumber(0, MOTIFS - 1, bit);
                takeWord("within");
                court.within[motif] = takeNumber(1, 9, 0);
            } else {
                fail(1);
            }
        }

        /** The first motif is the one ahead, the second the one that joins on to it. */
        private void readJoin(Court court) {
            step();
            int ahead = takeNumber(0, court.motifs - 1, 0);
            takeWord("to");
            int behind = takeNumber(0, court.motifs - 1, 1 << ahead | court.followers[ahead]);
            court.followers[ahead] |= 1 << behind;
            court.joinings++;
        }

        private void readClash(Court court) {
            step();
            int one = takeNumber(0, court.motifs - 1, 0);
            takeWord("and");
            int other = takeNumber(0, court.motifs - 1, 1 << one | court.rivals[one]);
            court.rivals[one] |= 1 << other;
            court.rivals[other] |= 1 << one;
            court.clashings++;
        }

        private void readKeeps(Court court) {
            step();
            int teller = takeNumber(0, court.tellers - 1, 0);
            court.setKeeper(takeNumber(0, court.motifs - 1, 0), teller);
        }

        private void readListener(Court court) {
            int listener = court.listeners;
            if (listener >= LISTENERS) {
                fail(3);
                return;
            }
            step();
            takeWord("loves");
            court.love[listener] = takeNumber(0, 9, 0);
            int loved = 0;
            // Nine unlike motifs at the most, and one time more for the one that is too many.
            for (int i = 0; i <= MOTIFS && fault == 0 && kind != SIGN; i++) {
                loved |= 1 << takeNumber(0, court.motifs - 1, loved);
            }
            court.loved[listener] = loved;
            court.listeners++;
        }

        private void fail(int what) {
            if (fault == 0) {
                fault = what;
                place = start;
            }
        }

        private void takeWord(String word) {
            if (isWord(word)) {
                step();
            } else {
                fail(1);
            }
        }

        /** A number in its bounds whose bit is not taken; 0, which is a safe index, behind a fault. */
        private int takeNumber(int least, int most, int taken) {
            if (fault != 0) {
                return 0;
            }
            if (kind != NUMBER) {
                fail(1);
                return 0;
            }
            int value = numberHere();
            if (value < least || value > most || (taken >> value & 1) != 0) {
                fail(2);
                return 0;
            }
            step();
            return value;
        }

        private boolean isWord(String word) {
            if (kind != WORD || stop - start != word.length()) {
                return false;
            }
            for (int i = 0; i < word.length(); i++) {
                if (byteAt(start + i) != word.charAt(i)) {
                    return false;
                }
            }
            return true;
        }

        /** The byte as a number 0 .. 255; NONE beyond the tape. */
        private int byteAt(int i) {
            return i >= 0 && i < size && i < TAPE ? bytes[i] & 255 : NONE;
        }

        private static int kindOf(int sign) {
            if (sign == NONE) {
                return END;
            }
            if (sign == 32 || sign == 10) {
                return BLANK;
            }
            if (sign >= 'a' && sign <= 'z') {
                return WORD;
            }
            if (sign >= '0' && sign <= '9') {
                return NUMBER;
            }
            return sign == ';' ? SIGN : BAD;
        }

        /** Goes on to the next token; behind a fault it stays where it is. */
        private void step() {
            if (fault != 0) {
                return;
            }
            start = stop;
            for (int i = 0; i < TAPE && kindOf(byteAt(start)) == BLANK; i++) {
                start++;
            }
            kind = kindOf(byteAt(start));
            stop = kind == END ? start : start + 1;
            boolean isLong = kind == WORD || kind == NUMBER;
            for (int i = 0; isLong && i < TAPE && kindOf(byteAt(stop)) == kind; i++) {
                stop++;
            }
        }

        private int numberHere() {
            int value = 0;
            for (int i = start; i < stop; i++) {
                value = Math.min(HUGE, 10 * value + byteAt(i) - '0');
            }
            return value;
        }
    }

    /** A tale that is told and taken back turn by turn. */
    private static final class Telling {
        final int[] turns = new int[TURNS];
        /** For each motif in owedSet the last turn for it. */
        final int[] dueTurn = new int[MOTIFS];
        int count;
        int toldSet;
        int last = NONE;
        int total;
        private final Court court;
        private final int[] silent = new int[TELLERS];
        private int blocked;
        private int owedSet;
        // What stood ahead of each turn, so that taking it back costs no retelling.
        private final int[] lastAhead = new int[TURNS];
        private final int[] blockedAhead = new int[TURNS];
        private final int[] owedAhead = new int[TURNS];
        private final int[] dueAhead = new int[TURNS];

        Telling(Court court) {
            this.court = court;
        }

        void clear() {
            count = 0;
            toldSet = 0;
            last = NONE;
            total = 0;
            blocked = 0;
            owedSet = 0;
            Arrays.fill(silent, 0);
        }

        void copyFrom(Telling other) {
            count = other.count;
            toldSet = other.toldSet;
            last = other.last;
            total = other.total;
            blocked = other.blocked;
            owedSet = other.owedSet;
            System.arraycopy(other.turns, 0, turns, 0, TURNS);
            System.arraycopy(other.dueTurn, 0, dueTurn, 0, MOTIFS);
            System.arraycopy(other.silent, 0, silent, 0, TELLERS);
            System.arraycopy(other.lastAhead, 0, lastAhead, 0, TURNS);
            System.arraycopy(other.blockedAhead, 0, blockedAhead, 0, TURNS);
            System.arraycopy(other.owedAhead, 0, owedAhead, 0, TURNS);
            System.arraycopy(other.dueAhead, 0, dueAhead, 0, TURNS);
        }

        int teller() {
            int tellers = court.tellers;
            return tellers > 0 && tellers <= TELLERS && count >= 0 ? count % tellers : 0;
        }

        int silencesLeft(int teller) {
            return teller >= 0 && teller < TELLERS ? court.silences - silent[teller] : 0;
        }

        int shareOf(int teller) {
            int sum = 0;
            int tellers = Math.max(1, court.tellers);
            for (int t = teller; t < count && t < TURNS; t += tellers) {
                sum += court.value(turns[t]);
            }
            return sum;
        }

        int unpaid() {
            return owedSet & ~toldSet;
        }

        boolean isWhole() {
            return last >= 0 && unpaid() == 0 && (court.forbidden >> last & 1) == 0;
        }

        /** What is not told and has its last turn now, or had it. */
        private int pressing() {
            int set = unpaid();
            for (int m = 0; m < MOTIFS && set >> m != 0; m++) {
                if (dueTurn[m] > count) {
                    set &= ~(1 << m);
                }
            }
            return set;
        }

        /**
         * For each motif how many turns are left for it, four bits each; 0 if it is not owed.
         * As many turns as there are motifs left, or more, never press: they are held alike, so that tales merge.
         */
        long debts() {
            int set = unpaid();
            int more = MOTIFS - Integer.bitCount(toldSet);
            long debts = 0L;
            for (int m = 0; m < MOTIFS && set >> m != 0; m++) {
                if ((set >> m & 1) != 0) {
                    long turns = Math.max(0, Math.min(more, dueTurn[m] - count)) + 1;
                    debts |= turns << 4 * m;
                }
            }
            return debts;
        }

        private int joined() {
            return last >= 0 && last < MOTIFS ? court.followers[last] : court.opening;
        }

        /** What may be told, but for what is owed. */
        int playable() {
            int away = toldSet | blocked | court.barred[teller()];
            if ((count & 1) == 0) {
                away |= court.strange;
            }
            return joined() & ~away;
        }

        int tellable() {
            int pressing = pressing();
            if (pressing == 0) {
                return playable();
            }
            // One turn pays one motif: two that press leave none.
            return Integer.bitCount(pressing) == 1 ? playable() & pressing : 0;
        }

        int reason(int motif) {
            if ((toldSet >> motif & 1) != 0) {
                return 1;
            }
            if ((blocked >> motif & 1) != 0) {
                return 2;
            }
            if ((joined() >> motif & 1) == 0) {
                return 3;
            }
            if ((court.strange >> motif & 1) != 0 && (count & 1) == 0) {
                return 4;
            }
            if ((pressing() & ~(1 << motif)) != 0) {
                return 5;
            }
            return (court.barred[teller()] >> motif & 1) != 0 ? 6 : 0;
        }

        boolean hasSilence() {
            return silencesLeft(teller()) > 0;
        }

        boolean mayBeSilent() {
            return hasSilence() && pressing() == 0;
        }

        private boolean hasRoom() {
            return count >= 0 && count < TURNS;
        }

        private void remember(int turn) {
            turns[count] = turn;
            lastAhead[count] = last;
            blockedAhead[count] = blocked;
            owedAhead[count] = owedSet;
        }

        void tell(int motif) {
            if (!hasRoom() || !court.hasMotif(motif)) {
                return;
            }
            remember(motif);
            toldSet |= 1 << motif;
            last = motif;
            total += court.value(motif);
            blocked |= court.rivals[motif];
            owe(court.owes[motif], count + court.within[motif]);
            count++;
        }

        private void owe(int motif, int turn) {
            if (motif < 0 || motif >= MOTIFS) {
                return;
            }
            dueAhead[count] = dueTurn[motif];
            if ((owedSet >> motif & 1) == 0 || turn < dueTurn[motif]) {
                dueTurn[motif] = turn;
            }
            owedSet |= 1 << motif;
        }

        void pass() {
            if (!hasRoom()) {
                return;
            }
            remember(SILENCE);
            silent[teller()]++;
            count++;
        }

        void takeBack() {
            if (count <= 0 || count > TURNS) {
                return;
            }
            count--;
            last = lastAhead[count];
            blocked = blockedAhead[count];
            owedSet = owedAhead[count];
            int motif = turns[count];
            if (motif >= 0 && motif < MOTIFS) {
                untell(motif);
            } else {
                silent[teller()]--;
            }
        }

        private void untell(int motif) {
            toldSet &= ~(1 << motif);
            total -= court.value(motif);
            int debt = court.owes[motif];
            if (debt >= 0 && debt < MOTIFS) {
                dueTurn[debt] = dueAhead[count];
            }
        }
    }

    /** What can come of a tale: one question, asked of every tale from now on. */
    private static final class Survey {
        static final int LONGEST = 0;
        static final int FULL = 1;
        static final int BEST = 2;
        static final int ROOF = 3;
        static final int ROWS = 4;
        static final int WHOLES = 5;
        static final int ENDS = 6;
        static final int FITS = 7;
        private static final int KNOWN = 4096;
        private static final int KNOWN_SHIFT = 52;
        private static final long SPREAD = -7046029254386353131L;

        private final Telling tale;
        private final Claims claims;
        // Answers behind what was told, each at one place alone: what another one puts out is worked out again.
        private final long[] knownKeys = new long[KNOWN];
        private final int[] known = new int[KNOWN];
        private int stamp;
        private int goal;
        private int number;
        private int without;

        Survey(Court court, Claims claims) {
            this.tale = new Telling(court);
            this.claims = claims;
        }

        /** The answer to a goal, with the number that goes with it, if none of a set is told any more. */
        int ask(Telling from, int newGoal, int newNumber, int newWithout) {
            tale.copyFrom(from);
            goal = newGoal;
            number = newNumber;
            without = newWithout;
            stamp++;
            return solve(0);
        }

        /** The i-th motif of the first row that has the answer; NONE if it is not so long, or there is none. */
        int askRow(Telling from, int newGoal, int newNumber, int i) {
            int wanted = ask(from, newGoal, newNumber, 0);
            if (wanted < 0 || i < 0) {
                return NONE;
            }
            int motif = NONE;
            for (int depth = 0; depth <= i && depth <= MOTIFS; depth++) {
                motif = own(depth) == wanted ? NONE : firstWith(wanted, depth);
                if (motif < 0) {
                    return NONE;
                }
                tale.tell(motif);
            }
            return motif;
        }

        private int firstWith(int wanted, int depth) {
            int open = openNow();
            for (int m = 0; m < MOTIFS && open >> m != 0; m++) {
                if ((open >> m & 1) != 0) {
                    tale.tell(m);
                    boolean has = solve(depth + 1) == wanted;
                    tale.takeBack();
                    if (has) {
                        return m;
                    }
                }
            }
            return NONE;
        }

        /** The answer of all tales that go on from here; depth is how many motifs were told more. */
        private int solve(int depth) {
            long key = key();
            int place = (int) (key * SPREAD >>> KNOWN_SHIFT);
            if (depth > MOTIFS || place < 0 || place >= KNOWN) {
                return NONE;
            }
            if (knownKeys[place] == key) {
                return known[place];
            }
            int answer = own(depth);
            int open = openNow();
            for (int m = 0; m < MOTIFS && open >> m != 0; m++) {
                if ((open >> m & 1) != 0) {
                    tale.tell(m);
                    answer = merge(answer, solve(depth + 1));
                    tale.takeBack();
                }
            }
            knownKeys[place] = key;
            known[place] = answer;
            return answer;
        }

        /** All that what comes depends on: the question (14 bits), what was told (9), the latest (4), debts (36). */
        private long key() {
            long key = stamp;
            key = key << 9 | tale.toldSet;
            key = key << 4 | tale.last + 1;
            return key << 36 | tale.debts();
        }

        private int openNow() {
            int open = tale.tellable() & ~without;
            return goal == FITS ? claims.allowedOf(open, tale.toldSet) : open;
        }

        /** What the tale as it is here answers; NONE (or 0, where tales are counted) if it has no part in it. */
        private int own(int depth) {
            if (goal == LONGEST) {
                return depth;
            }
            if (goal == ROWS) {
                return depth == number ? 1 : 0;
            }
            boolean isWhole = tale.isWhole();
            switch (goal) {
                case FULL: return isWhole ? depth : NONE;
                case BEST: return isWhole ? tale.total : NONE;
                case ROOF: return isWhole && tale.total >= number ? depth : NONE;
                case ENDS: return isWhole && tale.last == number ? 1 : 0;
                case FITS: return isWhole && (claims.named & ~tale.toldSet) == 0 ? 1 : 0;
                default: return isWhole ? 1 : 0;
            }
        }

        private int merge(int one, int other) {
            if (goal >= ROWS) {
                return one + other;
            }
            if (goal == ROOF && one >= 0 && other >= 0) {
                return Math.min(one, other);
            }
            return Math.max(one, other);
        }
    }

    /** The game of two: positions are worked out once, whatever the way that leads there. */
    private static final class Game {
        /** A motif of the latest and a set of the other eight; one more for the tale's start. */
        private static final int PLACES = MOTIFS * 256 + 1;
        private static final int TIMES = SILENCES + 1;
        private static final int POSITIONS = PLACES * TIMES * TIMES;
        private static final int DEPTH_MOST = TURNS + 1;

        private final Court court;
        private final Telling tale;
        private int[] memo = null;
        private int stamp;
        private boolean isQuick;

        Game(Court court) {
            this.court = court;
            this.tale = new Telling(court);
        }

        /** A quick game asks who wins alone, and leaves a position with the first move that wins. */
        void begin(Telling from, boolean quick) {
            tale.copyFrom(from);
            isQuick = quick;
            if (memo == null) {
                memo = new int[POSITIONS];
            }
            // What an earlier stamp left in the memo is void, so nothing has to be wiped.
            stamp++;
        }

        boolean isWon() {
            return (solve(0) & 1) != 0;
        }

        int turnsToEnd() {
            return solve(0) >> 1;
        }

        int winningMoves() {
            int set = 0;
            int moves = movesNow();
            for (int m = 0; m <= SILENCE; m++) {
                if ((moves >> m & 1) != 0) {
                    play(m);
                    set |= isWon() ? 0 : 1 << m;
                    tale.takeBack();
                }
            }
            return set;
        }

        int firstBlunder(Telling from) {
            begin(from, true);
            tale.clear();
            boolean won = isWon();
            for (int t = 0; t < from.count && t < TURNS; t++) {
                play(from.turns[t]);
                boolean otherWins = isWon();
                if (won && otherWins) {
                    return t;
                }
                won = otherWins;
            }
            return NONE;
        }

        private int movesNow() {
            return tale.playable() | (tale.hasSilence() ? 1 << SILENCE : 0);
        }

        private void play(int turn) {
            if (turn == SILENCE) {
                tale.pass();
            } else {
                tale.tell(turn);
            }
        }

        private int position() {
            int last = tale.last;
            int place = PLACES - 1;
            if (last >= 0) {
                int low = tale.toldSet & (1 << last) - 1;
                int high = tale.toldSet >> last + 1 << last;
                place = last * 256 + (high | low);
            }
            int first = court.silences - tale.silencesLeft(0);
            int second = court.silences - tale.silencesLeft(1);
            return (place * TIMES + first) * TIMES + second;
        }

        /** Twice the turns till one has lost, and 1 more if whose turn it is wins. */
        private int solve(int depth) {
            int position = position();
            if (depth > DEPTH_MOST || position < 0 || position >= POSITIONS || memo == null) {
                return 0;
            }
            if (memo[position] >> 6 == stamp) {
                return memo[position] & 63;
            }
            int moves = movesNow();
            int soonest = NONE;
            int latest = 0;
            for (int m = 0; m <= SILENCE && (soonest < 0 || !isQuick); m++) {
                if ((moves >> m & 1) != 0) {
                    play(m);
                    int behind = solve(depth + 1);
                    tale.takeBack();
                    int turns = (behind >> 1) + 1;
                    if ((behind & 1) != 0) {
                        latest = Math.max(latest, turns);
                    } else if (soonest < 0 || turns < soonest) {
                        soonest = turns;
                    }
                }
            }
            int answer = soonest >= 0 ? 2 * soonest + 1 : 2 * latest;
            memo[position] = stamp << 6 | answer;
            return answer;
        }
    }

    /** Who is said to have been told ahead of whom. */
    private static final class Claims {
        int named;
        /** How often one (row) is said to be ahead of another (column). */
        private final int[] said = new int[MOTIFS * MOTIFS];
        /** For each motif those that are said to be ahead of it. */
        private final int[] leaders = new int[MOTIFS];
        /** The same of each listener alone. */
        private final int[] leadersBy = new int[LISTENERS * MOTIFS];
        private final int[] least = new int[SETS];
        private final int[] ways = new int[SETS];

        /** Takes a row of two numbers each, or of three with a listener first; false if it is not such a row. */
        boolean take(Row row, int step, Court court) {
            named = 0;
            Arrays.fill(said, 0);
            Arrays.fill(leaders, 0);
            Arrays.fill(leadersBy, 0);
            if (step < 1 || row.size % step != 0) {
                return false;
            }
            for (int i = 0; i < row.size; i += step) {
                long listener = step == 3 ? row.numberAt(i) : 0L;
                long ahead = row.numberAt(i + step - 2);
                long behind = row.numberAt(i + step - 1);
                boolean isSpoken = step != 3 || listener >= 0L && listener < court.listeners;
                if (!isSpoken || !court.hasNumber(ahead) || !court.hasNumber(behind) || ahead == behind) {
                    return false;
                }
                note((int) listener, (int) ahead, (int) behind);
            }
            return true;
        }

        private void note(int listener, int ahead, int behind) {
            if (listener >= LISTENERS) {
                return;
            }
            named |= 1 << ahead | 1 << behind;
            said[ahead * MOTIFS + behind]++;
            leaders[behind] |= 1 << ahead;
            leadersBy[listener * MOTIFS + behind] |= 1 << ahead;
        }

        private boolean allows(int motif, int told) {
            return motif >= 0 && motif < MOTIFS && (leaders[motif] & ~told) == 0;
        }

        /** Those of a set that may come next, when all that are said to be ahead of them were told. */
        int allowedOf(int set, int told) {
            int allowed = set;
            for (int m = 0; m < MOTIFS; m++) {
                if (!allows(m, told)) {
                    allowed &= ~(1 << m);
                }
            }
            return allowed;
        }

        boolean allowTale(Telling tale) {
            int told = 0;
            for (int t = 0; t < tale.count && t < TURNS; t++) {
                int motif = tale.turns[t];
                if (motif != SILENCE && !allows(motif, told)) {
                    return false;
                }
                told |= 1 << motif;
            }
            return true;
        }

        /** For each set of motifs that may come first: the fewest untrue among them, and in how many orders. */
        void order(int motifs) {
            int sets = setsOf(motifs);
            Arrays.fill(least, NONE);
            Arrays.fill(ways, 0);
            least[0] = 0;
            ways[0] = 1;
            for (int set = 0; set < sets; set++) {
                for (int m = 0; m < motifs && m < MOTIFS; m++) {
                    int next = set | 1 << m;
                    if (next != set && next < sets) {
                        reach(next, least[set] + untrueBehind(m, set), ways[set]);
                    }
                }
            }
        }

        private void reach(int set, int untrue, int orders) {
            if (least[set] < 0 || untrue < least[set]) {
                least[set] = untrue;
                ways[set] = 0;
            }
            if (untrue == least[set]) {
                ways[set] += orders;
            }
        }

        /** How many claims are untrue because a motif comes behind all of a set. */
        private int untrueBehind(int motif, int set) {
            int sum = 0;
            for (int m = 0; m < MOTIFS; m++) {
                if ((set >> m & 1) != 0) {
                    sum += said[motif * MOTIFS + m];
                }
            }
            return sum;
        }

        private static int setsOf(int motifs) {
            return motifs >= 0 && motifs <= MOTIFS ? 1 << motifs : 1;
        }

        int fewestUntrue(int motifs) {
            return least[setsOf(motifs) - 1];
        }

        int ordersSoFew(int motifs) {
            return ways[setsOf(motifs) - 1];
        }

        int fewestLiars(int listeners) {
            int best = (1 << LISTENERS) - 1;
            for (int set = 0; set < 1 << LISTENERS && set < 1 << listeners; set++) {
                if (Integer.bitCount(set) < Integer.bitCount(best) && canBeTrueWithout(set)) {
                    best = set;
                }
            }
            return best;
        }

        private boolean canBeTrueWithout(int liars) {
            for (int m = 0; m < MOTIFS; m++) {
                leaders[m] = 0;
                for (int l = 0; l < LISTENERS; l++) {
                    if ((liars >> l & 1) == 0) {
                        leaders[m] |= leadersBy[l * MOTIFS + m];
                    }
                }
            }
            int placed = 0;
            for (int i = 0; i < MOTIFS; i++) {
                for (int m = 0; m < MOTIFS; m++) {
                    if (allows(m, placed)) {
                        placed |= 1 << m;
                    }
                }
            }
            return placed == SETS - 1;
        }
    }

    /** A slot: a row of numbers, or nothing. */
    private static final class Row {
        final long[] numbers = new long[NUMBERS];
        int width;
        int size = NONE;

        void begin(int newWidth, int n) {
            width = newWidth;
            size = n;
            Arrays.fill(numbers, 0L);
        }

        void put(int i, long v) {
            if (i < 0 || i >= NUMBERS) {
                return;
            }
            switch (width) {
                case 0: numbers[i] = (byte) v; break;
                case 1: numbers[i] = (short) v; break;
                case 2: numbers[i] = (int) v; break;
                default: numbers[i] = v; break;
            }
        }

        long numberAt(int i) {
            return i >= 0 && i < size && i < NUMBERS ? numbers[i] : NONE;
        }

        /** Whether all of n numbers from a place on are in the row; where there are none, none is beyond it. */
        boolean holds(int from, int n) {
            return from >= 0 && n >= 0 && (n == 0 || n <= size && from <= size - n);
        }

        boolean isOfMotifs(Court court) {
            for (int i = 0; i < size && i < NUMBERS; i++) {
                if (!court.hasNumber(numbers[i])) {
                    return false;
                }
            }
            return true;
        }

        int tasteFor(Court court, int listener) {
            if (!court.hasListener(listener)) {
                return 0;
            }
            int sum = 0;
            for (int i = 0; i < size && i < NUMBERS; i++) {
                if (court.hasNumber(numbers[i])) {
                    int motif = (int) numbers[i];
                    sum += court.value(motif);
                    sum += (court.loved[listener] >> motif & 1) != 0 ? court.love[listener] : 0;
                }
            }
            return sum;
        }
    }

    /** A court and its tale as they were. */
    private static final class Image {
        final Court court = new Court();
        final Telling tale = new Telling(court);
        boolean isKept;
    }
}
