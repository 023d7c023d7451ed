/**
 * A leat of days that go over a mill's wheel: what they grind, what they leave on the grating, what
 * is best done about it, and which day it may have been. The document numbers the promises that
 * the public methods keep; every call answers with a number and none ever throws.
 */
public final class LeatDays {
    public static final int BAD = -1, FULL = -2, FINDING = -3, STATE = -4, SPENT = -6, NONE = -9;

    private static final int NOTHING = 1, BEYOND = 2, UNLIKE = 3, NOUGHT = 4, SIZE = 5;
    private static final int DAY = 0, FLOOD = 1, DRY = 2, PIG = 3, RED = 4, HATS = 5, ALL_KINDS = 6;
    private static final int STEPPING = 0, RAKING = 1, SETTING = 2, FISHING = 3;

    private static final int ALL_ROWS = 6, MOST_INTS = 40;
    private static final int ALL_TEXTS = 4, MOST_BYTES = 60;
    private static final int BLANK = 32, FIGURE_0 = 48, FIGURE_9 = 57;
    private static final int FEWEST_DAYS = 2, MOST_DAYS = 9, MOST_FLOW = 9;
    private static final int WIDEST = 4, MOST_CLOG = 40, FIRST_HATCH = 2;
    private static final int MOST_DEEDS = 40, ALL_PLACES = 3;

    private static final int MOST_STEPS = 60, MOST_BOOKED = 20, MOST_PLANNED = 5, MOST_RAKED = 8;
    private static final int MOST_FLOUR = 400;
    private static final int MOST_TURNS = 6, DUEL_STEPS = 8, HATS_THROWN = 5;
    private static final int CHANCE_STEPS = 6, TWELVE = 12;
    private static final int MOST_LOTS = 20, LOTS_FACTOR = 48271, LOTS_MODULUS = 2147483647;
    private static final int LAST_DAY_TOLD = 5, LAST_COUNT = 12;

    private final Strip[] rows = new Strip[ALL_ROWS];
    private final Strip[] texts = new Strip[ALL_TEXTS];
    private final Days days = new Days();
    private final Wheel wheel = new Wheel();
    private final Deeds deeds = new Deeds();
    private final Deeds[] kept = new Deeds[ALL_PLACES];

    // What is tried aside is tried on these, made once, so that no call makes anything.
    private final Days guess = new Days();
    private final Wheel trial = new Wheel();
    private final Wheel[] planned = new Wheel[MOST_PLANNED];

    private int asked = 0;
    private long upper = 0;
    private long lower = 1;
    private int finding = 0;
    private final int[] findings = new int[SIZE + 1];

    public LeatDays() {
        for (int r = 0; r < ALL_ROWS; r++) {
            rows[r] = new Strip();
        }
        for (int t = 0; t < ALL_TEXTS; t++) {
            texts[t] = new Strip();
        }
        for (int k = 0; k < ALL_PLACES; k++) {
            kept[k] = new Deeds();
            kept[k].count = -1;
        }
        for (int i = 0; i < MOST_PLANNED; i++) {
            planned[i] = new Wheel();
        }
    }

    // ---- 1 rows, texts, leats

    public int row(int r, int n) {
        if (!isRow(r) || n > MOST_INTS) {
            return BAD;
        }
        if (n < 0) {
            return found(SIZE);
        }
        rows[r].make(n, 0);
        return n;
    }

    public int lay(int r, int i, int v) {
        if (!isRow(r)) {
            return BAD;
        }
        int missing = missingPlace(rows[r], i);
        if (missing != 0) {
            return found(missing);
        }
        asked = rows[r].places[i];
        rows[r].places[i] = v;
        return 1;
    }

    public int at(int r, int i) {
        if (!isRow(r)) {
            return BAD;
        }
        int missing = missingPlace(rows[r], i);
        if (missing != 0) {
            return found(missing);
        }
        asked = rows[r].places[i];
        return 1;
    }

    public int tear(int r) {
        if (!isRow(r)) {
            return BAD;
        }
        if (!rows[r].isThere()) {
            return found(NOTHING);
        }
        rows[r].size = -1;
        return 1;
    }

    public int copy(int r, int i, int to, int j, int n) {
        if (!isRow(r) || !isRow(to)) {
            return BAD;
        }
        if (n < 0) {
            return found(SIZE);
        }
        if (!rows[r].isThere() || !rows[to].isThere()) {
            return found(NOTHING);
        }
        if (!rows[r].hasFrom(i, n) || !rows[to].hasFrom(j, n)) {
            return found(BEYOND);
        }
        System.arraycopy(rows[r].places, i, rows[to].places, j, n);
        return 1;
    }

    public int mean(int r) {
        if (!isRow(r)) {
            return BAD;
        }
        if (!rows[r].isThere()) {
            return found(NOTHING);
        }
        if (rows[r].size == 0) {
            return found(NOUGHT);
        }
        asked = (int) (rows[r].sum() / rows[r].size);
        return 1;
    }

    public int text(int t, int n) {
        if (!isText(t) || n > MOST_BYTES) {
            return BAD;
        }
        if (n < 0) {
            return found(SIZE);
        }
        texts[t].make(n, BLANK);
        return n;
    }

    public int put(int t, int i, int v) {
        if (!isText(t)) {
            return BAD;
        }
        int missing = missingPlace(texts[t], i);
        if (missing != 0) {
            return found(missing);
        }
        int was = texts[t].places[i];
        texts[t].places[i] = (byte) v;
        return was + 1000;
    }

    public int fault(int t) {
        if (!isText(t)) {
            return BAD;
        }
        if (!texts[t].isThere()) {
            return found(NOTHING);
        }
        return faultOf(texts[t]);
    }

    public int leat(int t) {
        if (!isText(t)) {
            return BAD;
        }
        if (!texts[t].isThere()) {
            return found(NOTHING);
        }
        if (faultOf(texts[t]) != NONE) {
            return STATE;
        }
        days.read(texts[t]);
        deeds.count = 0;
        doAgain();
        for (int k = 0; k < ALL_PLACES; k++) {
            kept[k].count = -1;
        }
        return days.size;
    }

    public int day(int k, int what) {
        if (!isDay(k) || !within(what, 0, LAST_DAY_TOLD)) {
            return BAD;
        }
        asked = toldOfDay(k, what);
        return 1;
    }

    public int mark(int k, int kind) {
        if (!isDay(k) || !within(kind, FLOOD, HATS)) {
            return BAD;
        }
        if (!isOfKind(days.kinds[k], kind)) {
            return found(UNLIKE);
        }
        return markOf(k, kind) + 100;
    }

    public int grinds(int k, int hatch, int clog) {
        if (!isDay(k) || !within(hatch, 0, WIDEST) || !within(clog, 0, MOST_CLOG)) {
            return BAD;
        }
        return days.flour(k, hatch, clog);
    }

    // ---- 2 deeds

    public int step() {
        if (noDays()) {
            return STATE;
        }
        if (deeds.isFull()) {
            return FULL;
        }
        int flour = doDeed(STEPPING, 0);
        asked = wheel.at;
        return flour;
    }

    public int hatch(int h) {
        if (!within(h, 0, WIDEST)) {
            return BAD;
        }
        if (noDays() || wheel.hatch == h) {
            return STATE;
        }
        return deeds.isFull() ? FULL : doDeed(SETTING, h);
    }

    public int rake() {
        if (noDays() || wheel.clog == 0) {
            return STATE;
        }
        return deeds.isFull() ? FULL : doDeed(RAKING, 0);
    }

    public int fish(int k) {
        if (!isDay(k)) {
            return BAD;
        }
        if (days.wasFished(k)) {
            return STATE;
        }
        return deeds.isFull() ? FULL : doDeed(FISHING, k);
    }

    public int undo(int n) {
        if (!within(n, 0, deeds.count)) {
            return BAD;
        }
        int undone = deeds.count - n;
        if (undone > 0) {
            deeds.count = n;
            doAgain();
        }
        return undone;
    }

    public int keep(int k) {
        if (!isPlace(k)) {
            return BAD;
        }
        if (noDays()) {
            return STATE;
        }
        kept[k].copyOf(deeds);
        return deeds.count;
    }

    public int on(int k) {
        if (!isPlace(k)) {
            return BAD;
        }
        if (kept[k].count < 0) {
            return found(NOTHING);
        }
        deeds.copyOf(kept[k]);
        doAgain();
        return deeds.count;
    }

    // ---- 3 what comes

    public int mill(int n) {
        if (!within(n, 0, MOST_STEPS)) {
            return BAD;
        }
        if (noDays()) {
            return STATE;
        }
        startTrial();
        int flour = groundIn(n, days);
        asked = trial.at;
        return flour;
    }

    public int turns() {
        if (noDays()) {
            return STATE;
        }
        startTrial();
        for (int i = 1; i <= MOST_STEPS; i++) {
            int at = trial.at;
            if (trial.goRound(days) == 0) {
                asked = at;
                return i;
            }
        }
        return NONE;
    }

    public int book(int n, int r) {
        if (!within(n, 1, MOST_BOOKED) || !isRow(r)) {
            return BAD;
        }
        if (noDays()) {
            return STATE;
        }
        rows[r].make(n, 0);
        startTrial();
        int turned = 0;
        for (int i = 0; i < n; i++) {
            int flour = trial.goRound(days);
            rows[r].places[i] = flour;
            if (flour == 0) {
                turned++;
            }
        }
        return turned;
    }

    // ---- 4 what to do

    public int best(int n) {
        if (!within(n, 1, MOST_BOOKED)) {
            return BAD;
        }
        if (noDays()) {
            return STATE;
        }
        int first = 0;
        int most = -1;
        for (int h = 0; h <= WIDEST; h++) {
            startTrial();
            trial.hatch = h;
            int flour = groundIn(n, days);
            if (flour > most) {
                most = flour;
                first = h;
            }
        }
        asked = most;
        return first;
    }

    public int plan(int n, int r) {
        if (!within(n, 1, MOST_PLANNED) || !isRow(r)) {
            return BAD;
        }
        if (noDays()) {
            return STATE;
        }
        rows[r].make(n, 0);
        startTrial();
        for (int i = 0; i < n; i++) {
            int h = bestSetting(n - i - 1);
            rows[r].places[i] = h;
            trial.hatch = h;
            trial.goRound(days);
        }
        return trial.ground;
    }

    public int rakes(int n, int v) {
        if (!within(n, 1, MOST_RAKED) || !within(v, 0, MOST_FLOUR)) {
            return BAD;
        }
        if (noDays()) {
            return STATE;
        }
        int fewest = n + 1;
        int which = 0;
        for (int set = 0; set < 1 << n; set++) {
            int many = Integer.bitCount(set);
            if (many < fewest && groundRaking(n, set) >= v) {
                fewest = many;
                which = set;
            }
        }
        if (fewest > n) {
            return NONE;
        }
        asked = which;
        return fewest;
    }

    public int fishes(int n) {
        if (!within(n, 1, MOST_BOOKED)) {
            return BAD;
        }
        if (noDays()) {
            return STATE;
        }
        startTrial();
        int most = groundIn(n, days);
        int first = NONE;
        for (int k = 0; k < days.size; k++) {
            guess.copyOf(days);
            guess.setFished(k);
            startTrial();
            int flour = groundIn(n, guess);
            if (flour > most) {
                most = flour;
                first = k;
            }
        }
        if (first != NONE) {
            asked = most;
        }
        return first;
    }

    // ---- 5 which day it is

    public int where(int r) {
        if (!isRow(r)) {
            return BAD;
        }
        if (noDays()) {
            return STATE;
        }
        int wrong = wrongNumbers(rows[r]);
        if (wrong != 0) {
            return found(wrong);
        }
        int set = 0;
        for (int k = 0; k < days.size; k++) {
            if (grindsSo(rows[r], days, k)) {
                set |= 1 << k;
            }
        }
        return set;
    }

    public int flows(int k, int r) {
        if (!isDay(k) || !isRow(r)) {
            return BAD;
        }
        int wrong = wrongNumbers(rows[r]);
        if (wrong != 0) {
            return found(wrong);
        }
        guess.copyOf(days);
        int set = 0;
        for (int flow = 0; flow <= MOST_FLOW; flow++) {
            guess.flows[k] = flow;
            if (grindsSo(rows[r], guess, wheel.at)) {
                set |= 1 << flow;
            }
        }
        return set;
    }

    public int kinds(int k, int r) {
        if (!isDay(k) || !isRow(r)) {
            return BAD;
        }
        int wrong = wrongNumbers(rows[r]);
        if (wrong != 0) {
            return found(wrong);
        }
        guess.copyOf(days);
        int set = 0;
        for (int kind = 0; kind < ALL_KINDS; kind++) {
            guess.kinds[k] = kind;
            if (grindsSo(rows[r], guess, wheel.at)) {
                set |= 1 << kind;
            }
        }
        return set;
    }

    public int look(int k) {
        if (!isDay(k)) {
            return BAD;
        }
        int first = 0;
        int least = ALL_KINDS + 1;
        for (int h = 0; h <= WIDEST; h++) {
            int part = greatestPart(k, h);
            if (part < least) {
                least = part;
                first = h;
            }
        }
        asked = least;
        return first;
    }

    // ---- 6 by turns

    public int duel(int n) {
        if (!within(n, 0, MOST_TURNS)) {
            return BAD;
        }
        if (noDays()) {
            return STATE;
        }
        return millersTurn(n, wheel.hatch, wheel.clog);
    }

    // ---- 7 chances, lots

    public int odds(int v, int p) {
        if (!within(v, 0, MOST_FLOUR) || !within(p, 0, TWELVE)) {
            return BAD;
        }
        if (noDays()) {
            return STATE;
        }
        long part = 0;
        for (int dry = 0; dry < 1 << CHANCE_STEPS; dry++) {
            if (groundWithDry(dry) >= v) {
                part += weightOf(dry, p);
            }
        }
        tell(part, power(TWELVE, CHANCE_STEPS));
        return 1;
    }

    public int mid(int p) {
        if (!within(p, 0, TWELVE)) {
            return BAD;
        }
        if (noDays()) {
            return STATE;
        }
        long part = 0;
        for (int dry = 0; dry < 1 << CHANCE_STEPS; dry++) {
            part += weightOf(dry, p) * groundWithDry(dry);
        }
        tell(part, power(TWELVE, CHANCE_STEPS));
        return 1;
    }

    public int lots(int n, int seed) {
        if (!within(n, 1, MOST_LOTS) || !within(seed, 1, LOTS_MODULUS - 1)) {
            return BAD;
        }
        if (noDays()) {
            return STATE;
        }
        if (deeds.count + n > MOST_DEEDS) {
            return FULL;
        }
        int lot = seed;
        for (int i = 0; i < n; i++) {
            lot = (int) ((long) lot * LOTS_FACTOR % LOTS_MODULUS);
            doByLot(lot);
        }
        return wheel.ground;
    }

    // ---- 8 what is told

    public int asked() {
        return asked;
    }

    public long upper() {
        return upper;
    }

    public long lower() {
        return lower;
    }

    public int count(int what) {
        switch (what) {
            case 0: return days.size;
            case 1: return wheel.at;
            case 2: return deeds.count;
            case 3: return wheel.hatch;
            case 4: return wheel.clog;
            case 5: return wheel.ground;
            case 6: return wheel.back ? 1 : 0;
            case 7: return days.fished;
            case 8: return stripsThere(rows);
            case 9: return stripsThere(texts);
            case 10: return keptThere();
            case 11: return days.howManyOf(FLOOD);
            case 12: return days.howManyOf(PIG);
            default: return BAD;
        }
    }

    public int finding() {
        return finding;
    }

    public int findings(int f) {
        return within(f, NOTHING, SIZE) ? findings[f] : BAD;
    }

    public long digest() {
        long h = 17;
        for (int what = 0; what <= LAST_COUNT; what++) {
            h = 31 * h + count(what);
        }
        for (int k = 0; k < days.size; k++) {
            for (int what = 0; what <= LAST_DAY_TOLD; what++) {
                h = 31 * h + toldOfDay(k, what);
            }
        }
        for (int k = 0; k < ALL_PLACES; k++) {
            h = 31 * h + kept[k].count;
        }
        for (int r = 0; r < ALL_ROWS; r++) {
            h = rows[r].mixedInto(h);
        }
        for (int t = 0; t < ALL_TEXTS; t++) {
            h = texts[t].mixedInto(h);
        }
        return h;
    }

    // What is refused

    private static boolean within(int v, int least, int most) {
        return least <= v && v <= most;
    }

    private static boolean isRow(int r) {
        return within(r, 0, ALL_ROWS - 1);
    }

    private static boolean isText(int t) {
        return within(t, 0, ALL_TEXTS - 1);
    }

    private static boolean isPlace(int k) {
        return within(k, 0, ALL_PLACES - 1);
    }

    private boolean isDay(int k) {
        return within(k, 0, days.size - 1);
    }

    private boolean noDays() {
        return days.size == 0;
    }

    private int found(int what) {
        finding = what;
        findings[what]++;
        return FINDING;
    }

    /** The FINDING that forbids to use place i, or 0. */
    private static int missingPlace(Strip strip, int i) {
        if (!strip.isThere()) {
            return NOTHING;
        }
        return strip.hasFrom(i, 1) ? 0 : BEYOND;
    }

    /** The FINDING by which a ROW can't be what was GROUND, or 0. */
    private static int wrongNumbers(Strip row) {
        if (!row.isThere()) {
            return NOTHING;
        }
        if (!within(row.size, 1, MOST_BOOKED)) {
            return SIZE;
        }
        for (int i = 0; i < row.size; i++) {
            if (row.places[i] < 0) {
                return UNLIKE;
            }
        }
        return 0;
    }

    // The small language

    private static int faultOf(Strip text) {
        int many = 0;
        int i = 0;
        while (i < text.size) {
            if (text.places[i] == BLANK) {
                i++;
            } else {
                int fault = many == MOST_DAYS ? i : faultOfItem(text, i);
                if (fault != NONE) {
                    return fault;
                }
                many++;
                i += 3;
            }
        }
        return many < FEWEST_DAYS ? text.size : NONE;
    }

    private static int faultOfItem(Strip text, int start) {
        if (kindByLetter(text.places[start]) == NONE) {
            return start;
        }
        for (int i = start + 1; i <= start + 2; i++) {
            if (i >= text.size) {
                return text.size;
            }
            if (!within(text.places[i], FIGURE_0, FIGURE_9)) {
                return i;
            }
        }
        return NONE;
    }

    private static int kindByLetter(int letter) {
        switch (letter) {
            case 'd': return DAY;
            case 'f': return FLOOD;
            case 'r': return DRY;
            case 'p': return PIG;
            case 'e': return RED;
            case 'h': return HATS;
            default: return NONE;
        }
    }

    // Kinds of days

    private static boolean isOfKind(int kind, int of) {
        return kind == of || kind == RED && of == FLOOD || kind == HATS && of == PIG;
    }

    private int markOf(int k, int kind) {
        switch (kind) {
            case PIG: return leavesMoreThan(k, DAY);
            case RED: return grindsMoreThan(k, FLOOD);
            case HATS: return leavesMoreThan(k, PIG);
            default: return grindsMoreThan(k, DAY);
        }
    }

    private int grindsMoreThan(int k, int kind) {
        guess.copyOf(days);
        guess.kinds[k] = kind;
        return days.flour(k, wheel.hatch, wheel.clog) - guess.flour(k, wheel.hatch, wheel.clog);
    }

    private int leavesMoreThan(int k, int kind) {
        guess.copyOf(days);
        guess.kinds[k] = kind;
        return days.litter(k) - guess.litter(k);
    }

    private int toldOfDay(int k, int what) {
        switch (what) {
            case 0: return days.kinds[k];
            case 1: return days.flows[k];
            case 2: return days.drift(k);
            case 3: return days.flour(k, wheel.hatch, wheel.clog);
            case 4: return days.litter(k);
            default: return days.wasFished(k) ? 1 : 0;
        }
    }

    // Deeds

    private int doDeed(int what, int by) {
        deeds.add(what, by);
        return apply(what, by);
    }

    private int apply(int what, int by) {
        int was;
        switch (what) {
            case RAKING:
                was = wheel.clog;
                wheel.clog = 0;
                return was;
            case SETTING:
                was = wheel.hatch;
                wheel.hatch = by;
                return was;
            case FISHING:
                was = days.drift(by);
                days.setFished(by);
                return was;
            default:
                return wheel.goRound(days);
        }
    }

    /** A LEAT is its DAYS and its DEEDS: what is left of these, done anew, tells all the rest. */
    private void doAgain() {
        wheel.start();
        days.fished = 0;
        for (int i = 0; i < deeds.count; i++) {
            apply(deeds.whats[i], deeds.bys[i]);
        }
    }

    private void doByLot(int lot) {
        if (lot % 6 == 0) {
            doDeed(RAKING, 0);
        } else if (lot % 6 == 1) {
            doDeed(SETTING, lot / 8 % 5);
        } else {
            doDeed(STEPPING, 0);
        }
    }

    // Trials aside

    private void startTrial() {
        trial.copyOf(wheel);
        trial.ground = 0;
    }

    private int groundIn(int n, Days by) {
        for (int i = 0; i < n; i++) {
            trial.goRound(by);
        }
        return trial.ground;
    }

    private int groundRaking(int n, int set) {
        startTrial();
        for (int i = 0; i < n; i++) {
            if ((set >> i & 1) == 1) {
                trial.clog = 0;
            }
            trial.goRound(days);
        }
        return trial.ground;
    }

    private int groundWithDry(int dry) {
        startTrial();
        for (int i = 0; i < CHANCE_STEPS; i++) {
            if ((dry >> i & 1) == 1) {
                trial.turn();
                trial.pass(days.size);
            } else {
                trial.goRound(days);
            }
        }
        return trial.ground;
    }

    private boolean grindsSo(Strip numbers, Days by, int first) {
        startTrial();
        trial.at = first;
        for (int i = 0; i < numbers.size; i++) {
            if (trial.goRound(by) != numbers.places[i]) {
                return false;
            }
        }
        return true;
    }

    /** How the HATCH is best set on the trial now (the first), with so many STEPS behind this one. */
    private int bestSetting(int left) {
        int first = 0;
        int most = -1;
        for (int h = 0; h <= WIDEST; h++) {
            int flour = mostSetting(trial, h, left);
            if (flour > most) {
                most = flour;
                first = h;
            }
        }
        return first;
    }

    /** The most that is GROUND if the HATCH is set so ahead of a STEP, as is best ahead of the rest. */
    private int mostSetting(Wheel from, int h, int left) {
        if (!within(left, 0, MOST_PLANNED - 1)) {
            return from.ground;
        }
        Wheel next = planned[left];
        next.copyOf(from);
        next.hatch = h;
        next.goRound(days);
        if (left == 0) {
            return next.ground;
        }
        int most = 0;
        for (int g = 0; g <= WIDEST; g++) {
            most = Math.max(most, mostSetting(next, g, left - 1));
        }
        return most;
    }

    /** How many KINDS are in the greatest part that GRINDS alike, were the DAY of each. */
    private int greatestPart(int k, int hatch) {
        guess.copyOf(days);
        int greatest = 0;
        for (int kind = 0; kind < ALL_KINDS; kind++) {
            guess.kinds[k] = kind;
            greatest = Math.max(greatest, kindsGrinding(k, hatch, guess.flour(k, hatch, wheel.clog)));
        }
        return greatest;
    }

    private int kindsGrinding(int k, int hatch, int flour) {
        int many = 0;
        for (int kind = 0; kind < ALL_KINDS; kind++) {
            guess.kinds[k] = kind;
            if (guess.flour(k, hatch, wheel.clog) == flour) {
                many++;
            }
        }
        return many;
    }

    // By turns

    private int millersTurn(int left, int hatch, int clog) {
        if (left <= 0) {
            return groundAfterDuel(hatch, clog);
        }
        int idle = throwersTurn(left - 1, hatch, clog);
        int raked = throwersTurn(left - 1, hatch, 0);
        int opened = throwersTurn(left - 1, Math.min(WIDEST, hatch + 1), clog);
        return Math.max(idle, Math.max(raked, opened));
    }

    private int throwersTurn(int left, int hatch, int clog) {
        if (left <= 0) {
            return groundAfterDuel(hatch, clog);
        }
        int idle = millersTurn(left - 1, hatch, clog);
        int thrown = millersTurn(left - 1, hatch, Math.min(MOST_CLOG, clog + HATS_THROWN));
        return Math.min(idle, thrown);
    }

    private int groundAfterDuel(int hatch, int clog) {
        startTrial();
        trial.hatch = hatch;
        trial.clog = clog;
        for (int i = 0; i < DUEL_STEPS; i++) {
            trial.goRound(days);
        }
        return trial.ground;
    }

    // Chances

    /** Of 12 to the 6th the part in which just these STEPS (bits) are dry. */
    private static long weightOf(int dry, int p) {
        int drySteps = Integer.bitCount(dry);
        return power(p, drySteps) * power(TWELVE - p, CHANCE_STEPS - drySteps);
    }

    private static long power(int base, int times) {
        long product = 1;
        for (int i = 0; i < times; i++) {
            product *= base;
        }
        return product;
    }

    private void tell(long part, long whole) {
        long common = commonDivisor(part, whole);
        if (common > 0) {
            upper = part / common;
            lower = whole / common;
        }
    }

    private static long commonDivisor(long a, long b) {
        long x = a;
        long y = b;
        // Numbers below 2 to the 63rd need fewer than 100 divisions.
        for (int i = 0; i < 100 && y != 0; i++) {
            long rest = x % y;
            x = y;
            y = rest;
        }
        return x;
    }

    // What is counted

    private static int stripsThere(Strip[] strips) {
        int many = 0;
        for (int i = 0; i < strips.length; i++) {
            if (strips[i].isThere()) {
                many++;
            }
        }
        return many;
    }

    private int keptThere() {
        int many = 0;
        for (int k = 0; k < ALL_PLACES; k++) {
            if (kept[k].count >= 0) {
                many++;
            }
        }
        return many;
    }

    /** A ROW or a TEXT: one length of places serves both, so that none is ever made anew. */
    private static final class Strip {
        final int[] places = new int[MOST_BYTES];
        int size = -1;

        boolean isThere() {
            return size >= 0;
        }

        void make(int n, int v) {
            size = n;
            for (int i = 0; i < n && i < MOST_BYTES; i++) {
                places[i] = v;
            }
        }

        /** Whether there are n (0 or more) places from place i on. */
        boolean hasFrom(int i, int n) {
            return 0 <= i && i <= size - n;
        }

        long sum() {
            long sum = 0;
            for (int i = 0; i < size; i++) {
                sum += places[i];
            }
            return sum;
        }

        long mixedInto(long start) {
            long h = 31 * start + size;
            for (int i = 0; i < size; i++) {
                h = 31 * h + places[i];
            }
            return h;
        }
    }

    /** The DAYS of a LEAT; FISHED ones keep their first DRIFT, so that fishing can be undone. */
    private static final class Days {
        final int[] kinds = new int[MOST_DAYS];
        final int[] flows = new int[MOST_DAYS];
        final int[] drifts = new int[MOST_DAYS];
        int size = 0;
        int fished = 0;

        /** Takes the DAYS of a TEXT without a FAULT. */
        void read(Strip text) {
            size = 0;
            int i = 0;
            while (i < text.size) {
                if (text.places[i] == BLANK) {
                    i++;
                } else {
                    if (size < MOST_DAYS && i + 2 < text.size) {
                        kinds[size] = kindByLetter(text.places[i]);
                        flows[size] = text.places[i + 1] - FIGURE_0;
                        drifts[size] = text.places[i + 2] - FIGURE_0;
                        size++;
                    }
                    i += 3;
                }
            }
        }

        void copyOf(Days other) {
            for (int k = 0; k < MOST_DAYS; k++) {
                kinds[k] = other.kinds[k];
                flows[k] = other.flows[k];
                drifts[k] = other.drifts[k];
            }
            size = other.size;
            fished = other.fished;
        }

        boolean wasFished(int k) {
            return (fished >> k & 1) == 1;
        }

        void setFished(int k) {
            fished |= 1 << k;
        }

        int drift(int k) {
            return (fished >> k & 1) == 1 ? 0 : drifts[k];
        }

        int flour(int k, int hatch, int clog) {
            int flow = flows[k];
            switch (kinds[k]) {
                case FLOOD: return Math.max(0, 2 * flow * hatch - clog);
                case DRY: return Math.max(0, flow * Math.min(hatch, 1) - clog);
                case RED: return Math.max(0, 2 * flow * hatch - clog) + (hatch == WIDEST ? 5 : 0);
                case HATS: return Math.max(0, flow * hatch - clog - drift(k));
                default: return Math.max(0, flow * hatch - clog);
            }
        }

        int litter(int k) {
            int drift = drift(k);
            switch (kinds[k]) {
                case FLOOD:
                case RED: return drift / 2;
                case PIG: return drift + 3;
                case HATS: return 2 * (drift + 3);
                default: return drift;
            }
        }

        int howManyOf(int kind) {
            int many = 0;
            for (int k = 0; k < size; k++) {
                if (isOfKind(kinds[k], kind)) {
                    many++;
                }
            }
            return many;
        }
    }

    /** The WHEEL with its HATCH and GRATING, and what was GROUND. */
    private static final class Wheel {
        int at = 0;
        int hatch = 0;
        int clog = 0;
        boolean back = false;
        int ground = 0;

        void start() {
            at = 0;
            hatch = FIRST_HATCH;
            clog = 0;
            back = false;
            ground = 0;
        }

        void copyOf(Wheel other) {
            at = other.at;
            hatch = other.hatch;
            clog = other.clog;
            back = other.back;
            ground = other.ground;
        }

        int goRound(Days days) {
            int flour = days.flour(at, hatch, clog);
            ground += flour;
            clog = Math.min(MOST_CLOG, clog + days.litter(at));
            if (flour == 0) {
                turn();
            }
            pass(days.size);
            return flour;
        }

        void turn() {
            back = !back;
        }

        void pass(int size) {
            if (back) {
                at = at > 0 ? at - 1 : size - 1;
            } else {
                at = at < size - 1 ? at + 1 : 0;
            }
        }
    }

    /** The DEEDS that were done, in their order; a count of -1 where none are kept. */
    private static final class Deeds {
        final int[] whats = new int[MOST_DEEDS];
        final int[] bys = new int[MOST_DEEDS];
        int count = 0;

        boolean isFull() {
            return count >= MOST_DEEDS;
        }

        void add(int what, int by) {
            if (!isFull()) {
                whats[count] = what;
                bys[count] = by;
                count++;
            }
        }

        void copyOf(Deeds other) {
            count = other.count;
            for (int i = 0; i < count; i++) {
                whats[i] = other.whats[i];
                bys[i] = other.bys[i];
            }
        }
    }
}
