import java.util.NoSuchElementException;

/** Corks against the king: houses on a lake, told as a text, and all that can be asked of them. */
public final class CorkStreet {
    public static final int NONE = -1;

    private static final int NO_ANSWER = -2;

    private static final int NOT_THERE = 1;
    private static final int WRONG_NUMBER = 2;
    private static final int NO_ROOM = 3;
    private static final int FAULTY = 4;
    private static final int NOT_SO = 5;
    private static final int NOTHING_LEFT = 6;

    private static final int TAPE_BYTES = 1000;
    private static final int FED_BYTES = 20;
    private static final int HEIGHT_BASE = 1000;
    private static final int MOST_WEEKS_AHEAD = 20;
    private static final int MOST_MICE_WEEKS = 4;
    private static final int MOST_DAYS = 4;
    private static final int MOST_MOVES = 4;
    private static final int MOST_AUNT_WEIGHT = 99;
    private static final int MOST_AUNT_CORKS = 300;
    private static final int MOST_SEED = 65536;
    private static final int MOST_CORKS = 999;
    private static final int LAST_WEEK = 999;

    private final byte[] tape;
    private int taped;
    private final Reader reader;
    private Told told;
    private final State now;
    private final State later;
    private final Rafts rafts;
    private final Memory memory;
    private final Planner planner;
    private final Hoarders hoarders;
    private final Game game;
    private final MiceOdds odds;
    private int trouble;

    public CorkStreet() {
        tape = new byte[TAPE_BYTES];
        reader = new Reader();
        told = new Told();
        now = new State();
        later = new State();
        rafts = new Rafts();
        memory = new Memory();
        planner = new Planner();
        hoarders = new Hoarders();
        game = new Game();
        odds = new MiceOdds();
    }

    // ---- the lake

    public int feed(int a, int b, int c, int d, int e) {
        if (taped + FED_BYTES > TAPE_BYTES) {
            return NONE;
        }
        putOnTape(a);
        putOnTape(b);
        putOnTape(c);
        putOnTape(d);
        putOnTape(e);
        return taped;
    }

    public int lake(int n) {
        if (refused(false, outside(n, 0, taped))) {
            return NONE;
        }
        taped = 0;
        reader.read(tape, n);
        if (refusedBy(FAULTY, reader.fault != 0)) {
            return NONE;
        }
        told = reader.exchange(told);
        told.begin(now, 0);
        memory.clear();
        return told.houses;
    }

    public int fault() {
        return reader.fault;
    }

    public int where() {
        return trouble == FAULTY ? reader.place : NONE;
    }

    // ---- now

    public int house(int h, int what) {
        if (refused(noHouse(h) || outside(what, 0, 5), false)) {
            return NONE;
        }
        rafts.measure(told, now);
        switch (what) {
            case 0:
                return told.isNorth(h) ? 0 : 1;
            case 1:
                return told.weightAt(h, now);
            case 2:
                return now.liftUnder(h);
            case 3:
                return rafts.height[h] + HEIGHT_BASE;
            case 4:
                return rafts.bits[h];
            default:
                return guestBits(h);
        }
    }

    public int corks(int h, int kind) {
        if (refused(noHouse(h), noKind(kind))) {
            return NONE;
        }
        return now.corks[h * State.KINDS + kind];
    }

    public int guest(int g, int what) {
        if (refused(noGuest(g) || outside(what, 0, 1), false)) {
            return NONE;
        }
        return what == 0 ? told.guestWeight[g] : now.guestHouse[g];
    }

    public int rope(int k, int what) {
        if (refused(noRope(k) || outside(what, 0, 2), false)) {
            return NONE;
        }
        if (what == 2) {
            return now.isTied(k) ? 1 : 0;
        }
        return what == 0 ? told.ropeLesser[k] : told.ropeOther[k];
    }

    public int under() {
        if (refused(noLake(), false)) {
            return NONE;
        }
        rafts.measure(told, now);
        return rafts.underBits();
    }

    public int lowest() {
        if (refused(noLake(), false)) {
            return NONE;
        }
        rafts.measure(told, now);
        return rafts.lowestHouse();
    }

    public int rafts() {
        if (refused(noLake(), false)) {
            return NONE;
        }
        rafts.measure(told, now);
        return rafts.howMany();
    }

    public int tilt(int h) {
        if (refused(noHouse(h), false)) {
            return NONE;
        }
        rafts.measure(told, now);
        return rafts.tiltOf(h);
    }

    // ---- weeks to come, without MICE

    public int heightIn(int h, int n) {
        if (refused(noHouse(h), outside(n, 0, MOST_WEEKS_AHEAD))) {
            return NONE;
        }
        measureIn(n);
        return rafts.height[h] + HEIGHT_BASE;
    }

    public int underIn(int n) {
        if (refused(noLake(), outside(n, 0, MOST_WEEKS_AHEAD))) {
            return NONE;
        }
        measureIn(n);
        return rafts.underBits();
    }

    public int sinks(int h) {
        if (refused(noHouse(h), false)) {
            return NONE;
        }
        later.copyFrom(now);
        for (int week = 0; week <= MOST_WEEKS_AHEAD; week++) {
            rafts.measure(told, later);
            if (rafts.height[h] < 0) {
                return week;
            }
            later.soften();
        }
        return NO_ANSWER;
    }

    public int wetFeast() {
        if (refused(noLake(), false)) {
            return NONE;
        }
        for (int f = 0; f < told.feasts; f++) {
            measureIn(told.feastWeek[f]);
            if (rafts.height[told.feastHouse[f]] < told.feastHigh[f]) {
                return f;
            }
        }
        return NO_ANSWER;
    }

    // ---- an aunt

    public int aunt(int h, int weight, int kind) {
        if (refused(noHouse(h), outside(weight, 0, MOST_AUNT_WEIGHT) || noKind(kind))) {
            return NONE;
        }
        rafts.measure(told, now);
        int lacking = weight - rafts.totalOf(h);
        int lift = State.liftOfKind(kind);
        for (int count = 0; count <= MOST_AUNT_CORKS; count++) {
            if (count * lift >= lacking) {
                return count;
            }
        }
        return NO_ANSWER;
    }

    public int bestStay(int weight) {
        if (refused(noLake(), outside(weight, 0, MOST_AUNT_WEIGHT))) {
            return NONE;
        }
        rafts.measure(told, now);
        return rafts.bestHouseFor(weight);
    }

    public int bestMove(int g) {
        if (refused(noGuest(g), false)) {
            return NONE;
        }
        rafts.measure(told, now);
        rafts.own[now.guestHouse[g]] += told.guestWeight[g];
        return rafts.bestHouseFor(told.guestWeight[g]);
    }

    public int bestCut() {
        if (refused(noLake(), false)) {
            return NONE;
        }
        rafts.measure(told, now);
        int most = rafts.dryHouses();
        int best = NO_ANSWER;
        for (int k = 0; k < told.ropes; k++) {
            if (now.isTied(k)) {
                rafts.join(told, now.tied & ~(1 << k));
                rafts.level();
                int dryThen = rafts.dryHouses();
                if (dryThen > most) {
                    most = dryThen;
                    best = k;
                }
            }
        }
        return best;
    }

    // ---- plans

    public int plan(int n) {
        if (refused(noLake(), outside(n, 1, MOST_DAYS))) {
            return NONE;
        }
        planner.find(told, now, n, false);
        return planner.bottles;
    }

    public int planDays(int d, int n) {
        if (refused(noDrinker(d), outside(n, 1, MOST_DAYS))) {
            return NONE;
        }
        planner.find(told, now, n, false);
        return planner.daysOf(d);
    }

    public int planHouse(int d, int n) {
        if (refused(noDrinker(d), outside(n, 1, MOST_DAYS))) {
            return NONE;
        }
        planner.find(told, now, n, false);
        return planner.houseOf(d);
    }

    public int feasts(int n) {
        if (refused(noLake(), outside(n, 1, MOST_DAYS))) {
            return NONE;
        }
        planner.find(told, now, n, true);
        return planner.bottles;
    }

    public int feastHouse(int d, int n) {
        if (refused(noDrinker(d), outside(n, 1, MOST_DAYS))) {
            return NONE;
        }
        planner.find(told, now, n, true);
        return planner.houseOf(d);
    }

    // ---- hoarders

    public int sets() {
        if (refused(noLake(), false)) {
            return NONE;
        }
        hoarders.find(told);
        return hoarders.count;
    }

    public int setAt(int i) {
        if (refused(noLake(), false)) {
            return NONE;
        }
        hoarders.find(told);
        if (refusedBy(NOT_THERE, outside(i, 0, hoarders.count - 1))) {
            return NONE;
        }
        return hoarders.fitting[i];
    }

    public int could() {
        if (refused(noLake(), false)) {
            return NONE;
        }
        hoarders.find(told);
        return hoarders.inSome();
    }

    public int surely() {
        if (refused(noLake(), false)) {
            return NONE;
        }
        hoarders.find(told);
        return hoarders.inAll();
    }

    public int ask() {
        if (refused(noLake(), false)) {
            return NONE;
        }
        hoarders.find(told);
        return hoarders.whomToAsk(told.drinkers);
    }

    public int askLeaves() {
        if (refused(noLake(), false)) {
            return NONE;
        }
        hoarders.find(told);
        int drinker = hoarders.whomToAsk(told.drinkers);
        return drinker < 0 ? NO_ANSWER : hoarders.leftBy(drinker);
    }

    public int judge() {
        if (refused(noLake(), false)) {
            return NONE;
        }
        return hoarders.firstUnlike(told, 0);
    }

    // ---- king and village

    public int value(int n) {
        if (refused(noLake(), outside(n, 0, MOST_MOVES))) {
            return NONE;
        }
        return game.valueOf(told, now, n);
    }

    public int kingCuts(int n) {
        if (refused(noLake(), outside(n, 1, MOST_MOVES))) {
            return NONE;
        }
        return game.firstCut(told, now, n);
    }

    // ---- mice

    public long dry(int h, int n, boolean lower) {
        if (refusedOdds(h, n)) {
            return NONE;
        }
        odds.follow(told, now, h, n);
        return partOf(odds.dryShare, odds.whole, lower);
    }

    public long mean(int h, int n, boolean lower) {
        if (refusedOdds(h, n)) {
            return NONE;
        }
        odds.follow(told, now, h, n);
        return partOf(odds.heightSum + HEIGHT_BASE * odds.whole, odds.whole, lower);
    }

    public int safest(int n) {
        if (refused(noLake(), outside(n, 0, MOST_MICE_WEEKS))) {
            return NONE;
        }
        int best = NO_ANSWER;
        long most = -1;
        for (int h = 0; h < told.houses; h++) {
            if (told.isNorth(h)) {
                odds.follow(told, now, h, n);
                if (odds.dryShare > most) {
                    most = odds.dryShare;
                    best = h;
                }
            }
        }
        return best;
    }

    public long losses(int h, int n, boolean lower) {
        if (refusedOdds(h, n)) {
            return NONE;
        }
        odds.follow(told, now, h, n);
        return partOf(odds.lossSum, odds.whole, lower);
    }

    // ---- weeks by draws

    public int weeks(int h, int seed, int n) {
        if (refused(noHouse(h), wrongDraws(seed, n))) {
            return NONE;
        }
        eatLater(seed, n);
        rafts.measure(told, later);
        return rafts.height[h] + HEIGHT_BASE;
    }

    public int eaten(int seed, int n) {
        if (refused(noLake(), wrongDraws(seed, n))) {
            return NONE;
        }
        return eatLater(seed, n);
    }

    public int sunkAt(int seed, int n) {
        if (refused(noLake(), wrongDraws(seed, n))) {
            return NONE;
        }
        eatLater(seed, 0);
        for (int week = 0; week <= n; week++) {
            rafts.measure(told, later);
            if (rafts.underBits() != 0) {
                return week;
            }
            later.passWithMice(told);
        }
        return NO_ANSWER;
    }

    // ---- acts

    public int drink(int d, int h) {
        if (refused(noDrinker(d) || noHouse(h), false)) {
            return NONE;
        }
        int place = h * State.KINDS + told.drinkerKind[d];
        if (refusedBy(NO_ROOM, now.corks[place] >= MOST_CORKS)) {
            return NONE;
        }
        memory.keep(now);
        now.corks[place]++;
        return now.corks[place];
    }

    public boolean move(int g, int h) {
        if (refused(noGuest(g) || noHouse(h), false) || refusedBy(NOT_SO, now.guestHouse[g] == h)) {
            return false;
        }
        memory.keep(now);
        now.guestHouse[g] = h;
        return true;
    }

    public boolean cut(int k) {
        if (refused(noRope(k), false) || refusedBy(NOT_SO, !now.isTied(k))) {
            return false;
        }
        memory.keep(now);
        now.tied &= ~(1 << k);
        return true;
    }

    public boolean tie(int k) {
        if (refused(noRope(k), false) || refusedBy(NOT_SO, now.isTied(k))) {
            return false;
        }
        memory.keep(now);
        now.tied |= 1 << k;
        return true;
    }

    public int week() {
        if (refused(noLake(), false) || refusedBy(NO_ROOM, now.week >= LAST_WEEK)) {
            return NONE;
        }
        memory.keep(now);
        now.passWithMice(told);
        rafts.measure(told, now);
        return rafts.underBits();
    }

    public boolean seed(int v) {
        if (refused(noLake(), outside(v, 0, MOST_SEED))) {
            return false;
        }
        now.seed = v;
        return true;
    }

    public boolean undo() {
        if (refusedBy(NOTHING_LEFT, memory.undoable == 0)) {
            return false;
        }
        memory.takeBack(now);
        return true;
    }

    public int image() {
        if (refused(noLake(), false) || refusedBy(NO_ROOM, memory.images >= Memory.MOST_IMAGES)) {
            return NONE;
        }
        return memory.paint(now);
    }

    public boolean back(int image) {
        if (refused(outside(image, 0, memory.images - 1), false)) {
            return false;
        }
        memory.goBack(now, image);
        return true;
    }

    // ---- what is told

    public int led(int i) throws NoSuchElementException {
        rafts.measure(told, now);
        int wanted = i;
        for (int h = 0; h < told.houses && wanted >= 0; h++) {
            if (rafts.height[h] < 0) {
                if (wanted == 0) {
                    return h;
                }
                wanted--;
            }
        }
        throw new NoSuchElementException("no such house is under");
    }

    public int size(int what) {
        switch (what) {
            case 0:
                return told.mice;
            case 1:
                return told.houses;
            case 2:
                return told.ropes;
            case 3:
                return told.guests;
            case 4:
                return told.drinkers;
            case 5:
                return told.feasts;
            case 6:
                return told.hearsay.gave;
            case 7:
                return told.hearsay.seen;
            case 8:
                return now.week;
            case 9:
                return now.seed;
            case 10:
                return memory.undoable;
            case 11:
                return memory.images;
            case 12:
                return taped;
            default:
                return NONE;
        }
    }

    public int trouble() {
        return trouble;
    }

    // ---- how calls are refused

    /** Notes the TROUBLE of a call; what isn't there comes ahead of a wrong number. */
    private boolean refused(boolean missing, boolean wrongNumber) {
        trouble = missing ? NOT_THERE : wrongNumber ? WRONG_NUMBER : 0;
        return trouble != 0;
    }

    private boolean refusedBy(int why, boolean so) {
        trouble = so ? why : 0;
        return so;
    }

    private boolean refusedOdds(int h, int n) {
        return refused(noHouse(h), outside(n, 0, MOST_MICE_WEEKS)) || refusedBy(NOT_SO, !told.isNorth(h));
    }

    private static boolean outside(int number, int least, int most) {
        return number < least || number > most;
    }

    private static boolean noKind(int kind) {
        return outside(kind, 0, State.KINDS - 1);
    }

    private static boolean wrongDraws(int seed, int n) {
        return outside(seed, 0, MOST_SEED) || outside(n, 0, MOST_WEEKS_AHEAD);
    }

    private boolean noLake() {
        return told.houses == 0;
    }

    private boolean noHouse(int h) {
        return outside(h, 0, told.houses - 1);
    }

    private boolean noGuest(int g) {
        return outside(g, 0, told.guests - 1);
    }

    private boolean noRope(int k) {
        return outside(k, 0, told.ropes - 1);
    }

    private boolean noDrinker(int d) {
        return outside(d, 0, told.drinkers - 1);
    }

    // ---- parts of answers

    private void putOnTape(int number) {
        for (int shift = 24; shift >= 0 && taped < TAPE_BYTES; shift -= 8) {
            tape[taped] = (byte) (number >> shift);
            taped++;
        }
    }

    private int guestBits(int h) {
        int bits = 0;
        for (int g = 0; g < told.guests; g++) {
            if (now.guestHouse[g] == h) {
                bits |= 1 << g;
            }
        }
        return bits;
    }

    private void measureIn(int weeks) {
        later.copyFrom(now);
        for (int week = 0; week < weeks; week++) {
            later.soften();
        }
        rafts.measure(told, later);
    }

    /** Lets weeks pass by a SEED, in the state for later: how many corks went by MICE. */
    private int eatLater(int seed, int weeks) {
        later.copyFrom(now);
        later.seed = seed;
        int gone = 0;
        for (int week = 0; week < weeks; week++) {
            gone += later.passWithMice(told);
        }
        return gone;
    }

    private static long partOf(long upper, long below, boolean lower) {
        long common = commonDivisor(upper, below);
        if (common <= 0) {
            return lower ? 1 : 0;
        }
        return (lower ? below : upper) / common;
    }

    private static long commonDivisor(long a, long b) {
        long big = a;
        long small = b;
        // Euclid's steps on longs are fewer than a hundred.
        for (int step = 0; step < 100 && small != 0; step++) {
            long rest = big % small;
            big = small;
            small = rest;
        }
        return big;
    }

    /** What the text tells; it stays as it is while the LAKE lives. */
    static final class Told {
        static final int MOST_HOUSES = 5;
        static final int MOST_ROPES = 5;
        static final int MOST_GUESTS = 3;
        static final int MOST_DRINKERS = 3;
        static final int MOST_FEASTS = 4;

        int mice;
        int houses;
        int northBits;
        final int[] weight = new int[MOST_HOUSES];
        final int[] corks = new int[MOST_HOUSES * State.KINDS];
        int ropes;
        final int[] ropeLesser = new int[MOST_ROPES];
        final int[] ropeOther = new int[MOST_ROPES];
        int guests;
        final int[] guestWeight = new int[MOST_GUESTS];
        final int[] guestHouse = new int[MOST_GUESTS];
        int drinkers;
        final int[] drinkerKind = new int[MOST_DRINKERS];
        final int[] drinks = new int[MOST_DRINKERS];
        int feasts;
        final int[] feastHouse = new int[MOST_FEASTS];
        final int[] feastWeek = new int[MOST_FEASTS];
        final int[] feastHigh = new int[MOST_FEASTS];
        final Hearsay hearsay = new Hearsay();

        void clear() {
            mice = 0;
            houses = 0;
            northBits = 0;
            ropes = 0;
            guests = 0;
            drinkers = 0;
            feasts = 0;
            for (int i = 0; i < corks.length; i++) {
                corks[i] = 0;
            }
            hearsay.gave = 0;
            hearsay.seen = 0;
        }

        boolean isNorth(int h) {
            return (northBits >> h & 1) != 0;
        }

        boolean hasRope(int a, int b) {
            for (int k = 0; k < ropes; k++) {
                if (ropeLesser[k] == Math.min(a, b) && ropeOther[k] == Math.max(a, b)) {
                    return true;
                }
            }
            return false;
        }

        int weightAt(int h, State state) {
            int sum = weight[h];
            for (int g = 0; g < guests; g++) {
                if (state.guestHouse[g] == h) {
                    sum += guestWeight[g];
                }
            }
            return sum;
        }

        /** The LAKE at first, if these drinkers, as bits, gave nothing. */
        void begin(State state, int hoarding) {
            System.arraycopy(corks, 0, state.corks, 0, corks.length);
            System.arraycopy(guestHouse, 0, state.guestHouse, 0, guestHouse.length);
            for (int i = 0; i < hearsay.gave; i++) {
                int d = hearsay.gaveDrinker[i];
                if ((hoarding >> d & 1) == 0) {
                    state.corks[hearsay.gaveHouse[i] * State.KINDS + drinkerKind[d]] += hearsay.gaveCorks[i];
                }
            }
            state.tied = (1 << ropes) - 1;
            state.seed = 0;
            state.week = 0;
        }
    }

    /** What drinkers should have given, and what was seen of heights. */
    static final class Hearsay {
        static final int MOST_GAVE = 4;

        int gave;
        final int[] gaveDrinker = new int[MOST_GAVE];
        final int[] gaveHouse = new int[MOST_GAVE];
        final int[] gaveCorks = new int[MOST_GAVE];
        int seen;
        final int[] seenHouse = new int[Told.MOST_HOUSES];
        final int[] seenHeight = new int[Told.MOST_HOUSES];

        boolean hasSeen(int h) {
            for (int i = 0; i < seen; i++) {
                if (seenHouse[i] == h) {
                    return true;
                }
            }
            return false;
        }
    }

    /** What changes by ACTS and weeks. */
    static final class State {
        static final int KINDS = 5;
        static final int RED = 0;
        static final int STALE = 1;
        static final int SOFT = 2;
        static final int WHITE = 3;
        static final int FIZZY = 4;
        static final int CORKS = Told.MOST_HOUSES * KINDS;
        static final int NUMBERS = CORKS + Told.MOST_GUESTS + 3;

        private static final int[] LIFT = {3, 2, 1, 2, 4};
        // MICE like what lifts least, of like ones the first KIND.
        private static final int[] EATEN_FIRST = {SOFT, STALE, WHITE, RED, FIZZY};

        final int[] corks = new int[CORKS];
        final int[] guestHouse = new int[Told.MOST_GUESTS];
        int tied;
        int seed;
        int week;

        static int liftOfKind(int kind) {
            return kind < 0 || kind >= LIFT.length ? 0 : LIFT[kind];
        }

        /** What a cork of a drinker's KIND, put fresh, lifts when it has lain for some weeks. */
        static int liftOfOld(int kind, int weeks) {
            return kind == RED ? Math.max(0, LIFT[RED] - weeks) : liftOfKind(kind);
        }

        boolean isTied(int k) {
            return (tied >> k & 1) != 0;
        }

        int liftUnder(int h) {
            int sum = 0;
            for (int kind = 0; kind < KINDS; kind++) {
                sum += corks[h * KINDS + kind] * LIFT[kind];
            }
            return sum;
        }

        void soften() {
            for (int h = 0; h < Told.MOST_HOUSES; h++) {
                softenUnder(h);
            }
        }

        void softenUnder(int h) {
            int first = h * KINDS;
            corks[first + SOFT] = corks[first + STALE];
            corks[first + STALE] = corks[first + RED];
            corks[first + RED] = 0;
        }

        /** A cork goes by MICE: false if there is none. */
        boolean loseOne(int h) {
            for (int i = 0; i < KINDS; i++) {
                int place = h * KINDS + EATEN_FIRST[i];
                if (corks[place] > 0) {
                    corks[place]--;
                    return true;
                }
            }
            return false;
        }

        /** A WEEK with MICE, by SEED: how many corks went by them. */
        int passWithMice(Told told) {
            soften();
            int gone = 0;
            for (int h = 0; h < told.houses; h++) {
                if (told.isNorth(h)) {
                    seed = (75 * seed + 74) % 65537;
                    if (seed % 100 < told.mice && loseOne(h)) {
                        gone++;
                    }
                }
            }
            week++;
            return gone;
        }

        void copyFrom(State other) {
            System.arraycopy(other.corks, 0, corks, 0, CORKS);
            System.arraycopy(other.guestHouse, 0, guestHouse, 0, Told.MOST_GUESTS);
            tied = other.tied;
            seed = other.seed;
            week = other.week;
        }

        void save(int[] store, int slot) {
            int at = slot * NUMBERS;
            if (at < 0 || at + NUMBERS > store.length) {
                return;
            }
            System.arraycopy(corks, 0, store, at, CORKS);
            System.arraycopy(guestHouse, 0, store, at + CORKS, Told.MOST_GUESTS);
            store[at + NUMBERS - 3] = tied;
            store[at + NUMBERS - 2] = seed;
            store[at + NUMBERS - 1] = week;
        }

        void load(int[] store, int slot) {
            int at = slot * NUMBERS;
            if (at < 0 || at + NUMBERS > store.length) {
                return;
            }
            System.arraycopy(store, at, corks, 0, CORKS);
            System.arraycopy(store, at + CORKS, guestHouse, 0, Told.MOST_GUESTS);
            tied = store[at + NUMBERS - 3];
            seed = store[at + NUMBERS - 2];
            week = store[at + NUMBERS - 1];
        }
    }

    /** What can be undone, and IMAGES. */
    static final class Memory {
        static final int MOST_UNDOABLE = 16;
        static final int MOST_IMAGES = 3;

        private final int[] past = new int[MOST_UNDOABLE * State.NUMBERS];
        private final int[] painted = new int[MOST_IMAGES * State.NUMBERS];
        private int next;
        int undoable;
        int images;

        void clear() {
            next = 0;
            undoable = 0;
            images = 0;
        }

        void keep(State state) {
            state.save(past, next);
            next = (next + 1) % MOST_UNDOABLE;
            undoable = Math.min(undoable + 1, MOST_UNDOABLE);
        }

        void takeBack(State state) {
            next = (next + MOST_UNDOABLE - 1) % MOST_UNDOABLE;
            undoable--;
            state.load(past, next);
        }

        int paint(State state) {
            state.save(painted, images);
            images++;
            return images - 1;
        }

        void goBack(State state, int image) {
            state.load(painted, image);
            undoable = 0;
        }
    }

    /** Parts a text into TOKENS. */
    static final class Tokens {
        static final int WORD = 0;
        static final int WHOLE = 1;
        static final int SEMICOLON = 2;
        static final int END = 3;
        static final int NO_TOKEN = 4;

        private static final int LONGEST_WORD = 8;
        private static final int LONGEST_WHOLE = 3;

        private byte[] text = new byte[0];
        private int end;
        private int next;
        int at;
        int sort;
        int number;
        long letters;

        void start(byte[] tape, int n) {
            text = tape;
            end = Math.min(n, text.length);
            next = 0;
            advance();
        }

        void advance() {
            at = next;
            while (at < end && text[at] == ' ') {
                at++;
            }
            next = at;
            letters = 0;
            while (next < end && isLetter(text[next])) {
                letters = letters * 27 + (text[next] - 'a' + 1);
                next++;
            }
            if (next > at) {
                sort = next - at <= LONGEST_WORD ? WORD : NO_TOKEN;
                return;
            }
            number = 0;
            while (next < end && isDigit(text[next])) {
                number = number * 10 + (text[next] - '0');
                next++;
            }
            if (next > at) {
                sort = next - at <= LONGEST_WHOLE ? WHOLE : NO_TOKEN;
            } else if (at >= end) {
                sort = END;
            } else {
                sort = text[at] == ';' ? SEMICOLON : NO_TOKEN;
                next++;
            }
        }

        boolean isWord(String word) {
            if (sort != WORD || word.length() != next - at) {
                return false;
            }
            for (int i = 0; i < word.length(); i++) {
                if (word.charAt(i) != text[at + i]) {
                    return false;
                }
            }
            return true;
        }

        private static boolean isLetter(byte b) {
            return b >= 'a' && b <= 'z';
        }

        private static boolean isDigit(byte b) {
            return b >= '0' && b <= '9';
        }
    }

    /** Reads the text of a LAKE, up to its first FAULT. */
    static final class Reader {
        private static final int FORM = 1;
        private static final int UNTOLD = 2;
        private static final int AGAIN = 3;
        private static final int BOUNDS = 4;
        private static final int MANY = 5;
        private static final int LACKS = 6;

        private static final int LAKE = 0;
        private static final int HOUSE = 1;
        private static final int ROPE = 2;
        private static final int CORKS = 3;
        private static final int GUEST = 4;
        private static final int DRINKER = 5;
        private static final int FEAST = 6;
        private static final int GAVE = 7;
        private static final int SEEN = 8;
        private static final int NO_LINE = -1;

        private static final int MOST_NAMES = Told.MOST_HOUSES + Told.MOST_GUESTS + Told.MOST_DRINKERS;

        int fault;
        int place;
        private final Tokens tokens = new Tokens();
        private Told told = new Told();
        private boolean hasLake;
        private int names;
        private final long[] nameLetters = new long[MOST_NAMES];
        private final int[] nameSort = new int[MOST_NAMES];
        private final int[] nameNumber = new int[MOST_NAMES];
        private int whole;

        /** What was read, for another one to read into. */
        Told exchange(Told spare) {
            Told full = told;
            told = spare;
            return full;
        }

        void read(byte[] tape, int n) {
            told.clear();
            fault = 0;
            place = 0;
            hasLake = false;
            names = 0;
            tokens.start(tape, n);
            boolean more = true;
            for (int line = 0; line < TAPE_BYTES && more; line++) {
                if (!readLine()) {
                    return;
                }
                more = tokens.sort == Tokens.SEMICOLON;
                if (more) {
                    tokens.advance();
                }
            }
            if (tokens.sort != Tokens.END) {
                fail(FORM);
            } else if (told.houses == 0) {
                fail(LACKS);
            }
        }

        private boolean fail(int number) {
            fault = number;
            place = tokens.at;
            return false;
        }

        private boolean readLine() {
            int sort = lineSort();
            if (sort == NO_LINE) {
                return fail(FORM);
            }
            if (sort == LAKE && hasLake) {
                return fail(AGAIN);
            }
            if (sort != LAKE && !hasLake) {
                return fail(LACKS);
            }
            if (!hasRoomFor(sort)) {
                return fail(MANY);
            }
            tokens.advance();
            switch (sort) {
                case LAKE:
                    return readMice();
                case HOUSE:
                    return readHouse();
                case ROPE:
                    return readRope();
                case CORKS:
                    return readCorks();
                case GUEST:
                    return readGuest();
                case DRINKER:
                    return readDrinker();
                case FEAST:
                    return readFeast();
                case GAVE:
                    return readGave();
                default:
                    return readSeen();
            }
        }

        private int lineSort() {
            if (tokens.isWord("lake")) {
                return LAKE;
            }
            if (tokens.isWord("house")) {
                return HOUSE;
            }
            if (tokens.isWord("rope")) {
                return ROPE;
            }
            if (tokens.isWord("corks")) {
                return CORKS;
            }
            if (tokens.isWord("guest")) {
                return GUEST;
            }
            if (tokens.isWord("drinker")) {
                return DRINKER;
            }
            if (tokens.isWord("feast")) {
                return FEAST;
            }
            if (tokens.isWord("gave")) {
                return GAVE;
            }
            return tokens.isWord("seen") ? SEEN : NO_LINE;
        }

        private boolean hasRoomFor(int sort) {
            switch (sort) {
                case HOUSE:
                    return told.houses < Told.MOST_HOUSES;
                case ROPE:
                    return told.ropes < Told.MOST_ROPES;
                case GUEST:
                    return told.guests < Told.MOST_GUESTS;
                case DRINKER:
                    return told.drinkers < Told.MOST_DRINKERS;
                case FEAST:
                    return told.feasts < Told.MOST_FEASTS;
                case GAVE:
                    return told.hearsay.gave < Hearsay.MOST_GAVE;
                default:
                    return true;
            }
        }

        private boolean readMice() {
            if (!takeWord("mice") || !takeWhole(0, 100)) {
                return false;
            }
            told.mice = whole;
            hasLake = true;
            return true;
        }

        private boolean readHouse() {
            int h = told.houses;
            if (!takeNewName(HOUSE, h)) {
                return false;
            }
            if (tokens.isWord("north")) {
                told.northBits |= 1 << h;
            } else if (!tokens.isWord("south")) {
                return fail(FORM);
            }
            tokens.advance();
            if (!takeWord("weight") || !takeWhole(0, 99)) {
                return false;
            }
            told.weight[h] = whole;
            told.houses++;
            return true;
        }

        private boolean readRope() {
            int a = numberOfName(HOUSE);
            if (a < 0) {
                return false;
            }
            tokens.advance();
            int b = numberOfName(HOUSE);
            if (b < 0) {
                return false;
            }
            if (a == b || told.hasRope(a, b)) {
                return fail(AGAIN);
            }
            tokens.advance();
            told.ropeLesser[told.ropes] = Math.min(a, b);
            told.ropeOther[told.ropes] = Math.max(a, b);
            told.ropes++;
            return true;
        }

        private boolean readCorks() {
            int h = numberOfName(HOUSE);
            if (h < 0) {
                return false;
            }
            tokens.advance();
            int kind = kindHere();
            if (kind < 0) {
                return fail(FORM);
            }
            if (told.corks[h * State.KINDS + kind] > 0) {
                return fail(AGAIN);
            }
            tokens.advance();
            if (!takeWhole(1, 30)) {
                return false;
            }
            told.corks[h * State.KINDS + kind] = whole;
            return true;
        }

        private boolean readGuest() {
            int g = told.guests;
            if (!takeNewName(GUEST, g) || !takeWord("weight") || !takeWhole(1, 50) || !takeWord("at")) {
                return false;
            }
            int h = numberOfName(HOUSE);
            if (h < 0) {
                return false;
            }
            tokens.advance();
            told.guestWeight[g] = whole;
            told.guestHouse[g] = h;
            told.guests++;
            return true;
        }

        private boolean readDrinker() {
            int d = told.drinkers;
            if (!takeNewName(DRINKER, d)) {
                return false;
            }
            int kind = kindHere();
            if (kind != State.RED && kind != State.WHITE && kind != State.FIZZY) {
                return fail(FORM);
            }
            tokens.advance();
            if (!takeWord("drinks") || !takeWhole(1, 9)) {
                return false;
            }
            told.drinkerKind[d] = kind;
            told.drinks[d] = whole;
            told.drinkers++;
            return true;
        }

        private boolean readFeast() {
            int f = told.feasts;
            int h = numberOfName(HOUSE);
            if (h < 0) {
                return false;
            }
            tokens.advance();
            if (!takeWord("week") || !takeWhole(0, 9)) {
                return false;
            }
            told.feastWeek[f] = whole;
            if (!takeWord("high") || !takeWhole(0, 50)) {
                return false;
            }
            told.feastHigh[f] = whole;
            told.feastHouse[f] = h;
            told.feasts++;
            return true;
        }

        private boolean readGave() {
            int d = numberOfName(DRINKER);
            if (d < 0) {
                return false;
            }
            tokens.advance();
            int h = numberOfName(HOUSE);
            if (h < 0) {
                return false;
            }
            tokens.advance();
            if (!takeWhole(1, 20)) {
                return false;
            }
            Hearsay hearsay = told.hearsay;
            hearsay.gaveDrinker[hearsay.gave] = d;
            hearsay.gaveHouse[hearsay.gave] = h;
            hearsay.gaveCorks[hearsay.gave] = whole;
            hearsay.gave++;
            return true;
        }

        private boolean readSeen() {
            Hearsay hearsay = told.hearsay;
            int h = numberOfName(HOUSE);
            if (h < 0) {
                return false;
            }
            if (hearsay.hasSeen(h)) {
                return fail(AGAIN);
            }
            tokens.advance();
            boolean below = tokens.isWord("below");
            if (!below && !tokens.isWord("over")) {
                return fail(FORM);
            }
            tokens.advance();
            if (!takeWhole(below ? 1 : 0, 200)) {
                return false;
            }
            hearsay.seenHouse[hearsay.seen] = h;
            hearsay.seenHeight[hearsay.seen] = below ? -whole : whole;
            hearsay.seen++;
            return true;
        }

        private boolean takeWord(String word) {
            if (!tokens.isWord(word)) {
                return fail(FORM);
            }
            tokens.advance();
            return true;
        }

        private boolean takeWhole(int least, int most) {
            if (tokens.sort != Tokens.WHOLE) {
                return fail(FORM);
            }
            if (tokens.number < least || tokens.number > most) {
                return fail(BOUNDS);
            }
            whole = tokens.number;
            tokens.advance();
            return true;
        }

        private boolean takeNewName(int sort, int number) {
            if (tokens.sort != Tokens.WORD || lineSort() != NO_LINE) {
                return fail(FORM);
            }
            if (findName() >= 0) {
                return fail(AGAIN);
            }
            if (names >= MOST_NAMES) {
                return fail(MANY);
            }
            nameLetters[names] = tokens.letters;
            nameSort[names] = sort;
            nameNumber[names] = number;
            names++;
            tokens.advance();
            return true;
        }

        /** The number of what the name here was told of; -1 and a FAULT if it isn't of that sort. */
        private int numberOfName(int sort) {
            if (tokens.sort != Tokens.WORD || lineSort() != NO_LINE) {
                fail(FORM);
                return -1;
            }
            int i = findName();
            if (i < 0 || nameSort[i] != sort) {
                fail(UNTOLD);
                return -1;
            }
            return nameNumber[i];
        }

        private int findName() {
            for (int i = 0; i < names; i++) {
                if (nameLetters[i] == tokens.letters) {
                    return i;
                }
            }
            return -1;
        }

        private int kindHere() {
            if (tokens.isWord("red")) {
                return State.RED;
            }
            if (tokens.isWord("stale")) {
                return State.STALE;
            }
            if (tokens.isWord("soft")) {
                return State.SOFT;
            }
            if (tokens.isWord("white")) {
                return State.WHITE;
            }
            return tokens.isWord("fizzy") ? State.FIZZY : -1;
        }
    }

    /** RAFTS and HEIGHTS of a state. */
    static final class Rafts {
        int houses;
        /** Of each house, what its own corks lift above its weights. */
        final int[] own = new int[Told.MOST_HOUSES];
        final int[] bits = new int[Told.MOST_HOUSES];
        final int[] height = new int[Told.MOST_HOUSES];

        void measure(Told told, State state) {
            weigh(told, state);
            join(told, state.tied);
            level();
        }

        void weigh(Told told, State state) {
            houses = told.houses;
            for (int h = 0; h < houses; h++) {
                own[h] = state.liftUnder(h) - told.weightAt(h, state);
            }
        }

        void join(Told told, int tied) {
            for (int h = 0; h < houses; h++) {
                bits[h] = 1 << h;
            }
            for (int k = 0; k < told.ropes; k++) {
                if ((tied >> k & 1) != 0) {
                    merge(bits[told.ropeLesser[k]] | bits[told.ropeOther[k]]);
                }
            }
        }

        private void merge(int raft) {
            for (int h = 0; h < houses; h++) {
                if ((raft >> h & 1) != 0) {
                    bits[h] = raft;
                }
            }
        }

        void level() {
            for (int h = 0; h < houses; h++) {
                int first = firstOf(h);
                if (first < h) {
                    height[h] = height[first];
                } else {
                    int size = sizeOf(h);
                    height[h] = size > 0 ? Math.floorDiv(totalOf(h), size) : 0;
                }
            }
        }

        int firstOf(int h) {
            for (int i = 0; i < h; i++) {
                if ((bits[h] >> i & 1) != 0) {
                    return i;
                }
            }
            return h;
        }

        int sizeOf(int h) {
            return Integer.bitCount(bits[h]);
        }

        int totalOf(int h) {
            int sum = 0;
            for (int i = 0; i < houses; i++) {
                if ((bits[h] >> i & 1) != 0) {
                    sum += own[i];
                }
            }
            return sum;
        }

        int underBits() {
            int under = 0;
            for (int h = 0; h < houses; h++) {
                if (height[h] < 0) {
                    under |= 1 << h;
                }
            }
            return under;
        }

        int dryHouses() {
            return houses - Integer.bitCount(underBits());
        }

        int lowestHouse() {
            int low = 0;
            for (int h = 1; h < houses; h++) {
                if (height[h] < height[low]) {
                    low = h;
                }
            }
            return low;
        }

        int howMany() {
            int count = 0;
            for (int h = 0; h < houses; h++) {
                if (firstOf(h) == h) {
                    count++;
                }
            }
            return count;
        }

        int tiltOf(int h) {
            int most = own[h];
            int least = own[h];
            for (int i = 0; i < houses; i++) {
                if ((bits[h] >> i & 1) != 0) {
                    most = Math.max(most, own[i]);
                    least = Math.min(least, own[i]);
                }
            }
            return most - least;
        }

        /** Where one more of such a weight leaves the lowest house highest; heights are spoilt by it. */
        int bestHouseFor(int weight) {
            int best = 0;
            int highest = 0;
            for (int h = 0; h < houses; h++) {
                own[h] -= weight;
                level();
                own[h] += weight;
                int low = height[lowestHouse()];
                if (h == 0 || low > highest) {
                    highest = low;
                    best = h;
                }
            }
            return best;
        }
    }

    /**
     * PLAN and FEASTS. All houses of a RAFT float alike, so what is lacking is held for RAFTS, at
     * their first houses, and apart for corks that have lain 0, 1, 2, and 3 or more weeks: behind
     * that no cork changes.
     */
    static final class Planner {
        private static final int AGES = 4;

        int bottles;
        private final Rafts rafts = new Rafts();
        private final State later = new State();
        private int mostDays;
        private final int[] lacking = new int[Told.MOST_HOUSES * AGES];
        private final int[] triedDays = new int[Told.MOST_DRINKERS];
        private final int[] triedHouse = new int[Told.MOST_DRINKERS];
        private final int[] days = new int[Told.MOST_DRINKERS];
        private final int[] house = new int[Told.MOST_DRINKERS];

        int daysOf(int d) {
            return bottles < 0 ? NO_ANSWER : days[d];
        }

        int houseOf(int d) {
            return bottles < 0 || days[d] == 0 ? NO_ANSWER : house[d];
        }

        void find(Told told, State now, int n, boolean forFeasts) {
            mostDays = n;
            bottles = NO_ANSWER;
            for (int i = 0; i < lacking.length; i++) {
                lacking[i] = 0;
            }
            later.copyFrom(now);
            for (int age = 0; age < AGES; age++) {
                rafts.measure(told, later);
                if (age == 0) {
                    noteHouses(told);
                }
                if (forFeasts) {
                    noteFeasts(told, age);
                }
                later.soften();
            }
            search(told, 0, 0);
        }

        private void noteHouses(Told told) {
            for (int h = 0; h < told.houses; h++) {
                note(h, 0, 0);
            }
        }

        private void noteFeasts(Told told, int age) {
            for (int f = 0; f < told.feasts; f++) {
                if (Math.min(told.feastWeek[f], AGES - 1) == age) {
                    note(told.feastHouse[f], age, told.feastHigh[f]);
                }
            }
        }

        private void note(int h, int age, int high) {
            int place = rafts.firstOf(h) * AGES + age;
            lacking[place] = Math.max(lacking[place], high * rafts.sizeOf(h) - rafts.totalOf(h));
        }

        /** Goes through what drinkers may do in the order of the tie-break, so that the first found stays. */
        private void search(Told told, int d, int drunk) {
            if (bottles >= 0 && drunk >= bottles || lackingRafts(told.houses) > told.drinkers - d) {
                return;
            }
            if (d >= told.drinkers) {
                bottles = drunk;
                System.arraycopy(triedDays, 0, days, 0, days.length);
                System.arraycopy(triedHouse, 0, house, 0, house.length);
                return;
            }
            triedDays[d] = 0;
            search(told, d + 1, drunk);
            for (int t = 1; t <= mostDays; t++) {
                int corks = t * told.drinks[d];
                for (int h = 0; h < told.houses; h++) {
                    // Corks where nothing is lacking could be left out: no fewest bottles.
                    if (isLacking(h)) {
                        triedDays[d] = t;
                        triedHouse[d] = h;
                        put(h, told.drinkerKind[d], corks);
                        search(told, d + 1, drunk + corks);
                        put(h, told.drinkerKind[d], -corks);
                    }
                }
            }
        }

        private void put(int h, int kind, int corks) {
            for (int age = 0; age < AGES; age++) {
                lacking[h * AGES + age] -= corks * State.liftOfOld(kind, age);
            }
        }

        private boolean isLacking(int h) {
            for (int age = 0; age < AGES; age++) {
                if (lacking[h * AGES + age] > 0) {
                    return true;
                }
            }
            return false;
        }

        private int lackingRafts(int houses) {
            int count = 0;
            for (int h = 0; h < houses; h++) {
                if (isLacking(h)) {
                    count++;
                }
            }
            return count;
        }
    }

    /** Sets of drinkers, as bits, who gave nothing by what was seen. */
    static final class Hoarders {
        int count;
        final int[] fitting = new int[1 << Told.MOST_DRINKERS];
        private final Rafts rafts = new Rafts();
        private final State first = new State();

        void find(Told told) {
            count = 0;
            for (int set = 0; set < 1 << told.drinkers && count < fitting.length; set++) {
                if (firstUnlike(told, set) == NO_ANSWER) {
                    fitting[count] = set;
                    count++;
                }
            }
        }

        /** The first seen that isn't so if these hoard. */
        int firstUnlike(Told told, int set) {
            told.begin(first, set);
            rafts.measure(told, first);
            Hearsay hearsay = told.hearsay;
            for (int i = 0; i < hearsay.seen; i++) {
                if (rafts.height[hearsay.seenHouse[i]] != hearsay.seenHeight[i]) {
                    return i;
                }
            }
            return NO_ANSWER;
        }

        int inSome() {
            int bits = 0;
            for (int i = 0; i < count; i++) {
                bits |= fitting[i];
            }
            return bits;
        }

        int inAll() {
            int bits = count > 0 ? fitting[0] : 0;
            for (int i = 1; i < count; i++) {
                bits &= fitting[i];
            }
            return bits;
        }

        int whomToAsk(int drinkers) {
            if (count == 0 || drinkers == 0) {
                return NO_ANSWER;
            }
            int best = 0;
            for (int d = 1; d < drinkers; d++) {
                if (leftBy(d) < leftBy(best)) {
                    best = d;
                }
            }
            return best;
        }

        int leftBy(int d) {
            int with = 0;
            for (int i = 0; i < count; i++) {
                with += fitting[i] >> d & 1;
            }
            return Math.max(with, count - with);
        }
    }

    /** KING and VILLAGE by turns; at most four moves deep. */
    static final class Game {
        private static final int WHITE_LIFT = 2;

        private final Rafts rafts = new Rafts();

        int valueOf(Told told, State now, int moves) {
            rafts.weigh(told, now);
            return kingMoves(told, now.tied, moves);
        }

        int firstCut(Told told, State now, int moves) {
            rafts.weigh(told, now);
            int least = villageMoves(told, now.tied, moves - 1);
            int best = NO_ANSWER;
            for (int k = 0; k < told.ropes; k++) {
                if (now.isTied(k)) {
                    int then = villageMoves(told, now.tied & ~(1 << k), moves - 1);
                    if (then < least) {
                        least = then;
                        best = k;
                    }
                }
            }
            return best;
        }

        private int kingMoves(Told told, int tied, int moves) {
            if (moves <= 0) {
                return dryBy(told, tied);
            }
            int least = villageMoves(told, tied, moves - 1);
            for (int k = 0; k < told.ropes; k++) {
                if ((tied >> k & 1) != 0) {
                    least = Math.min(least, villageMoves(told, tied & ~(1 << k), moves - 1));
                }
            }
            return least;
        }

        private int villageMoves(Told told, int tied, int moves) {
            if (moves <= 0) {
                return dryBy(told, tied);
            }
            if (moves == 1) {
                return dryBy(told, tied) + mostRaised();
            }
            int most = 0;
            for (int h = 0; h < told.houses; h++) {
                rafts.own[h] += WHITE_LIFT;
                most = Math.max(most, kingMoves(told, tied, moves - 1));
                rafts.own[h] -= WHITE_LIFT;
            }
            return most;
        }

        private int dryBy(Told told, int tied) {
            rafts.join(told, tied);
            rafts.level();
            return rafts.dryHouses();
        }

        /** How many houses one cork, the last move, can bring up: those of one RAFT. */
        private int mostRaised() {
            int most = 0;
            for (int h = 0; h < rafts.houses; h++) {
                if (rafts.height[h] < 0 && rafts.totalOf(h) + WHITE_LIFT >= 0) {
                    most = Math.max(most, rafts.sizeOf(h));
                }
            }
            return most;
        }
    }

    /** MICE by chance under one house: each way in which they come or don't, with its share of the whole. */
    static final class MiceOdds {
        long whole;
        long dryShare;
        long heightSum;
        long lossSum;
        private final State later = new State();

        void follow(Told told, State now, int h, int weeks) {
            whole = 1;
            for (int week = 0; week < weeks; week++) {
                whole *= 100;
            }
            dryShare = 0;
            heightSum = 0;
            lossSum = 0;
            int weight = told.weightAt(h, now);
            for (int comings = 0; comings < 1 << weeks; comings++) {
                long share = shareOf(comings, weeks, told.mice);
                if (share > 0) {
                    later.copyFrom(now);
                    lossSum += share * lossBy(comings, h, weeks);
                    int high = later.liftUnder(h) - weight;
                    heightSum += share * high;
                    dryShare += high >= 0 ? share : 0;
                }
            }
        }

        private static long shareOf(int comings, int weeks, int mice) {
            long share = 1;
            for (int week = 0; week < weeks; week++) {
                share *= (comings >> week & 1) != 0 ? mice : 100 - mice;
            }
            return share;
        }

        private int lossBy(int comings, int h, int weeks) {
            int gone = 0;
            for (int week = 0; week < weeks; week++) {
                later.softenUnder(h);
                if ((comings >> week & 1) != 0 && later.loseOne(h)) {
                    gone++;
                }
            }
            return gone;
        }
    }
}
