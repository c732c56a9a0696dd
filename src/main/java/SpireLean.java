/** A spire that leans towards what draws it, with all that ../shared/DOC.md promises of it. */
public final class SpireLean {
    public static final int BAD = -1, STATE = -2, FULL = -3, NONE = -4;

    private static final int SIDE = 10;
    private static final int CELLS = 100;
    private static final int MOST_DRAWS = 5;
    private static final int MOST_PULL = 20;
    private static final int MOST_STIFF = 20;
    private static final int MOST_BEARS = 18;
    private static final int MOST_AHEAD = 60;
    private static final int MOST_LOOK = 30;
    private static final int LAST_YEAR = 999;
    private static final int MOST_CALM_YEARS = 8;
    private static final int MOST_SEEN = 6;
    private static final int MOST_READ = 20;
    private static final int SHEETS = 4;
    private static final int LANES = 3;
    private static final int SHEET_CELLS = 40;
    private static final int IMAGES = 2;

    /** What is told of a DRAW, by the numbers that draw() and alter() give it. */
    private static final int KIND = 0, PULL = 1, AT = 2, SINCE = 3, TRAITS = 4;
    private static final int[] LEAST = {0, 1, 0, 0};
    private static final int[] MOST = {3, MOST_PULL, CELLS - 1, 60};

    /** A YEAR that no run reaches, so that a DRAW which is SINCE then is silent. */
    private static final int NEVER = 1000000;

    /** What the machine would find. */
    private static final int FAULT_NULL = 1, FAULT_INDEX = 2, FAULT_CAST = 3, FAULT_SIZE = 4;

    private final Town live = new Town();
    /** Every question is answered on this copy, so that none of them makes a town of its own. */
    private final Town trial = new Town();
    private final Town[] images = new Town[IMAGES];
    private final boolean[] kept = new boolean[IMAGES];
    private final Tape tape = new Tape();
    private final Sightings seen = new Sightings();
    private final Odds odds = new Odds();
    private final Sheet[] sheets = new Sheet[SHEETS];
    /** Where each PULL that is possible would have THE POINT by now. */
    private final int[] points = new int[MOST_PULL + 1];
    private final int[] tally = new int[CELLS];
    private int textFault;
    private int readFault;

    public SpireLean() {
        for (int k = 0; k < IMAGES; k++) {
            images[k] = new Town();
        }
        for (int k = 0; k < SHEETS; k++) {
            sheets[k] = new Sheet();
        }
    }

    // ---- the text, what there is

    public int feed(int c) {
        if (!within(c, 0, 127)) {
            return BAD;
        }
        return tape.append(c);
    }

    public int end(int n) {
        int had = tape.length;
        if (!within(n, 0, had)) {
            return BAD;
        }
        tape.length = n;
        return had;
    }

    public int text() {
        trial.clear();
        int lines = tape.tellTo(trial);
        tape.length = 0;
        textFault = tape.fault;
        if (textFault != 0) {
            return -10 - tape.faultPlace;
        }
        live.copyFrom(trial);
        seen.size = 0;
        for (int k = 0; k < IMAGES; k++) {
            kept[k] = false;
        }
        return lines;
    }

    public int fault() {
        return textFault;
    }

    public int rule(int what) {
        switch (what) {
            case 0: return live.draws;
            case 1: return live.year;
            case 2: return live.foot;
            case 3: return live.point;
            case 4: return live.lean();
            case 5: return live.isFallen() ? 1 : 0;
            case 6: return live.holder();
            case 7: return live.pullBack();
            case 8: return live.stiff;
            case 9: return live.bears;
            default: return BAD;
        }
    }

    public int draw(int i, int what) {
        if (!live.hasDraw(i)) {
            return BAD;
        }
        switch (what) {
            case KIND:
            case PULL:
            case AT:
            case SINCE: return live.trait(i, what);
            case 4: return Town.strength(live.trait(i, KIND), live.trait(i, PULL));
            case 5: return live.force(i);
            case 6: return live.gap(i);
            default: return BAD;
        }
    }

    // ---- what is changed

    public int alter(int i, int what, int v) {
        if (!live.hasDraw(i) || !fitsTrait(what, v)) {
            return BAD;
        }
        int was = live.trait(i, what);
        live.setTrait(i, what, v);
        return was;
    }

    public int stiff(int v) {
        if (!within(v, 0, MOST_STIFF)) {
            return BAD;
        }
        int was = live.stiff;
        live.stiff = v;
        return was;
    }

    public int bears(int v) {
        if (!within(v, 0, MOST_BEARS)) {
            return BAD;
        }
        int was = live.bears;
        live.bears = v;
        return was;
    }

    public int bend(int c) {
        if (!isCell(c)) {
            return BAD;
        }
        int was = live.point;
        live.point = c;
        return was;
    }

    public int put(int kind, int pull, int c) {
        if (!fitsTrait(KIND, kind) || !fitsTrait(PULL, pull) || !isCell(c)) {
            return BAD;
        }
        if (live.isFull()) {
            return FULL;
        }
        live.addDraw(kind, pull, c, 0);
        return live.draws;
    }

    public int raze(int n) {
        int were = live.draws;
        if (!within(n, 0, were)) {
            return BAD;
        }
        live.draws = n;
        return were;
    }

    // ---- years

    public int years(int n) {
        if (!within(n, 0, MOST_LOOK)) {
            return BAD;
        }
        if (live.year + n > LAST_YEAR) {
            return FULL;
        }
        live.passYears(n);
        return live.point;
    }

    public int runs(int n, int what) {
        if (!within(n, 0, MOST_AHEAD)) {
            return BAD;
        }
        trial.copyFrom(live);
        switch (what) {
            case 0:
                trial.passYears(n);
                return trial.point;
            case 1:
                trial.passYears(n);
                return trial.lean();
            case 2: return trial.greatestLean(n);
            case 3: return trial.movesIn(n);
            case 4: return trial.holdersIn(n);
            default: return BAD;
        }
    }

    public int falls() {
        trial.copyFrom(live);
        return trial.yearsToFall(MOST_AHEAD);
    }

    public int comes(int c) {
        if (!isCell(c)) {
            return BAD;
        }
        trial.copyFrom(live);
        return trial.yearsTo(c, MOST_AHEAD);
    }

    public long share(int i, int n, int what) {
        if (!live.hasDraw(i) || !within(n, 1, MOST_AHEAD) || !isHalf(what)) {
            return BAD;
        }
        trial.copyFrom(live);
        return part(trial.yearsHeldBy(i, n), n, what);
    }

    public int turn() {
        trial.copyFrom(live);
        int now = live.holder();
        for (int n = 1; n <= MOST_AHEAD; n++) {
            trial.passYear();
            if (trial.holder() != now) {
                return n;
            }
        }
        return NONE;
    }

    // ---- what is best

    public int need() {
        for (int v = 0; v <= MOST_BEARS; v++) {
            trial.copyFrom(live);
            trial.bears = v;
            if (trial.yearsToFall(MOST_AHEAD) == NONE) {
                return v;
            }
        }
        return NONE;
    }

    public int brace() {
        for (int v = 0; v <= MOST_STIFF; v++) {
            trial.copyFrom(live);
            trial.stiff = v;
            if (trial.yearsToFall(MOST_AHEAD) == NONE) {
                return v;
            }
        }
        return NONE;
    }

    public int lure(int i, int c) {
        if (!live.hasDraw(i) || !isCell(c)) {
            return BAD;
        }
        for (int v = LEAST[PULL]; v <= MOST[PULL]; v++) {
            suppose(i, PULL, v);
            if (trial.yearsTo(c, MOST_AHEAD) != NONE) {
                return v;
            }
        }
        return NONE;
    }

    public int site(int kind, int pull, int c, int what) {
        if (!fitsTrait(KIND, kind) || !fitsTrait(PULL, pull) || !isCell(c) || !isHalf(what)) {
            return BAD;
        }
        if (live.isFull()) {
            return FULL;
        }
        int best = NONE;
        int soonest = MOST_AHEAD + 1;
        // Of several the first is meant, so a later CELL must be sooner: it need not be run further.
        for (int at = 0; at < CELLS && soonest > 0; at++) {
            trial.copyFrom(live);
            trial.addDraw(kind, pull, at, 0);
            int behind = trial.yearsTo(c, soonest - 1);
            if (behind != NONE) {
                best = at;
                soonest = behind;
            }
        }
        return chosen(best, soonest, what);
    }

    public int hush(int what) {
        if (!isHalf(what)) {
            return BAD;
        }
        int best = NONE;
        int least = leanAhead();
        for (int i = 0; i < live.draws; i++) {
            suppose(i, SINCE, NEVER);
            int lean = trial.greatestLean(MOST_AHEAD);
            if (lean < least) {
                best = i;
                least = lean;
            }
        }
        return chosen(best, least, what);
    }

    public int swap(int what) {
        if (!isHalf(what)) {
            return BAD;
        }
        int best = NONE;
        int least = leanAhead();
        for (int i = 0; i < live.draws; i++) {
            for (int j = i + 1; j < live.draws; j++) {
                suppose(i, AT, live.trait(j, AT));
                trial.setTrait(j, AT, live.trait(i, AT));
                int lean = trial.greatestLean(MOST_AHEAD);
                if (lean < least) {
                    best = 10 * i + j;
                    least = lean;
                }
            }
        }
        return chosen(best, least, what);
    }

    public int kind(int i, int n, int what) {
        if (!live.hasDraw(i) || !within(n, 0, MOST_AHEAD) || !isHalf(what)) {
            return BAD;
        }
        int best = NONE;
        int nearest = CELLS;
        for (int v = LEAST[KIND]; v <= MOST[KIND]; v++) {
            suppose(i, KIND, v);
            trial.passYears(n);
            int gap = trial.gap(i);
            if (gap < nearest) {
                best = v;
                nearest = gap;
            }
        }
        return chosen(best, nearest, what);
    }

    // ---- calm years

    public long luck(int v, int c, int n, int what) {
        if (!within(v, 0, 10) || !isCell(c) || !within(n, 0, MOST_CALM_YEARS) || !isHalf(what)) {
            return BAD;
        }
        trial.copyFrom(live);
        odds.spread(trial, v, n);
        return part(odds.weights[c], odds.whole, what);
    }

    public long mean(int v, int n, int what) {
        if (!within(v, 0, 10) || !within(n, 0, MOST_CALM_YEARS) || !isHalf(what)) {
            return BAD;
        }
        trial.copyFrom(live);
        odds.spread(trial, v, n);
        return part(odds.leanTotal(live.foot), odds.whole, what);
    }

    // ---- what it was

    public int see(int n, int c) {
        if (!within(n, 0, MOST_LOOK) || !isCell(c)) {
            return BAD;
        }
        return seen.add(n, c);
    }

    public int forget(int n) {
        int were = seen.size;
        if (!within(n, 0, were)) {
            return BAD;
        }
        seen.size = n;
        return were;
    }

    public int kinds(int i) {
        return live.hasDraw(i) ? fittingBits(i, KIND) : BAD;
    }

    public int pulls(int i) {
        return live.hasDraw(i) ? fittingBits(i, PULL) : BAD;
    }

    public int spots(int i, int what) {
        if (!live.hasDraw(i) || !isHalf(what)) {
            return BAD;
        }
        int found = 0;
        int first = NONE;
        for (int at = 0; at < CELLS; at++) {
            suppose(i, AT, at);
            if (seen.fits(trial)) {
                found++;
                if (first == NONE) {
                    first = at;
                }
            }
        }
        return what == 0 ? found : first;
    }

    public int ask(int i, int what) {
        if (!live.hasDraw(i) || !isHalf(what)) {
            return BAD;
        }
        int possible = fittingBits(i, PULL);
        gatherPoints();
        int best = NONE;
        int fewest = Integer.bitCount(possible);
        for (int n = 0; n <= MOST_LOOK; n++) {
            int left = mostLeft(possible);
            if (left < fewest) {
                best = n;
                fewest = left;
            }
            movePoints(i, possible);
        }
        return chosen(best, fewest, what);
    }

    // ---- by a seed

    public int drift(int seed, int n, int what) {
        if (!within(n, 1, MOST_AHEAD) || !isHalf(what)) {
            return BAD;
        }
        int draws = live.draws;
        if (draws <= 0) {
            return STATE;
        }
        trial.copyFrom(live);
        int greatest = trial.lean();
        int state = seed;
        for (int y = 0; y < n; y++) {
            state = state * 1103515245 + 12345;
            int got = (state >>> 16) & 0x7fff;
            trial.setTrait(got % draws, AT, got / 8 % CELLS);
            trial.passYear();
            greatest = Math.max(greatest, trial.lean());
        }
        return what == 0 ? trial.point : greatest;
    }

    // ---- images, sheets

    public int keep(int k) {
        if (!within(k, 0, IMAGES - 1)) {
            return BAD;
        }
        int was = kept[k] ? 1 : 0;
        images[k].copyFrom(live);
        kept[k] = true;
        return was;
    }

    public int back(int k) {
        if (!within(k, 0, IMAGES - 1)) {
            return BAD;
        }
        if (!kept[k]) {
            return STATE;
        }
        live.copyFrom(images[k]);
        return live.year;
    }

    public int sheet(int k, int lane, int n) {
        if (!isSheet(k) || !isLane(lane) || n > SHEET_CELLS) {
            return BAD;
        }
        if (n < 0) {
            return -10 - FAULT_SIZE;
        }
        sheets[k].renew(lane, n);
        return 1;
    }

    public int lay(int k, int i, int v) {
        if (!isSheet(k)) {
            return BAD;
        }
        Sheet sheet = sheets[k];
        int found = sheet.faultOf(sheet.lane, i);
        if (found != 0) {
            return -10 - found;
        }
        sheet.write(i, v);
        return 1;
    }

    public int read(int k, int lane, int f, int n) {
        if (!isSheet(k) || !isLane(lane) || !within(n, 0, MOST_READ)) {
            return BAD;
        }
        Sheet sheet = sheets[k];
        trial.copyFrom(live);
        int came = 0;
        int found = 0;
        while (came < n) {
            int place = f + 2 * came;
            found = sheet.faultOfPair(lane, place);
            if (found != 0) {
                break;
            }
            if (!removeDraw(sheet.cells[place], sheet.cells[place + 1])) {
                return -20 - came;
            }
            came++;
        }
        live.copyFrom(trial);
        readFault = found;
        return came;
    }

    public int torn() {
        return readFault;
    }

    public int count(int what) {
        switch (what) {
            case 0: return seen.size;
            case 1: return imagesKept();
            case 2: return tape.length;
            case 3: return sheets[0].isNothing() ? NONE : sheets[0].size;
            case 4: return live.pullOfAll();
            case 5: return live.drawing();
            default: return BAD;
        }
    }

    // ---- what the calls share

    private static boolean within(int v, int least, int most) {
        return v >= least && v <= most;
    }

    private static boolean isCell(int c) {
        return within(c, 0, CELLS - 1);
    }

    /** Many calls give one half of an answer by 0, the other by 1. */
    private static boolean isHalf(int what) {
        return within(what, 0, 1);
    }

    private static boolean isSheet(int k) {
        return within(k, 0, SHEETS - 1);
    }

    private static boolean isLane(int lane) {
        return within(lane, 0, LANES - 1);
    }

    private static boolean fitsTrait(int what, int v) {
        return within(what, KIND, SINCE) && within(v, LEAST[what], MOST[what]);
    }

    private static int far(int a, int b) {
        int alongX = a / SIDE - b / SIDE;
        int alongY = a % SIDE - b % SIDE;
        return (alongX < 0 ? -alongX : alongX) + (alongY < 0 ? -alongY : alongY);
    }

    private static int sign(int v) {
        if (v == 0) {
            return 0;
        }
        return v < 0 ? -1 : 1;
    }

    private static int chosen(int best, int measure, int what) {
        if (best == NONE) {
            return NONE;
        }
        return what == 0 ? best : measure;
    }

    private static long part(long upper, long lower, int what) {
        long common = commonDivisor(upper, lower);
        if (common == 0) {
            return 0;
        }
        return what == 0 ? upper / common : lower / common;
    }

    private static long commonDivisor(long a, long b) {
        long greater = a;
        long lesser = b;
        // Fewer than 100 steps are enough for any two longs.
        for (int step = 0; step < 100 && lesser != 0; step++) {
            long rest = greater % lesser;
            greater = lesser;
            lesser = rest;
        }
        return greater;
    }

    /** The trial is the town as it is now, but for one trait of one DRAW. */
    private void suppose(int i, int what, int v) {
        trial.copyFrom(live);
        trial.setTrait(i, what, v);
    }

    private int leanAhead() {
        trial.copyFrom(live);
        return trial.greatestLean(MOST_AHEAD);
    }

    private int fittingBits(int i, int what) {
        int bits = 0;
        for (int v = LEAST[what]; v <= MOST[what]; v++) {
            suppose(i, what, v);
            if (seen.fits(trial)) {
                bits |= 1 << v;
            }
        }
        return bits;
    }

    /** All PULLS have THE POINT where it is now, and the trial is in the YEAR of all of them. */
    private void gatherPoints() {
        trial.copyFrom(live);
        for (int v = LEAST[PULL]; v <= MOST[PULL]; v++) {
            points[v] = live.point;
        }
    }

    /** A YEAR goes by for each of the possible PULLS by itself. */
    private void movePoints(int i, int possible) {
        int year = trial.year;
        for (int v = LEAST[PULL]; v <= MOST[PULL]; v++) {
            if ((possible >> v & 1) == 1) {
                trial.setTrait(i, PULL, v);
                trial.point = points[v];
                trial.year = year;
                trial.passYear();
                points[v] = trial.point;
            }
        }
        trial.year = year + 1;
    }

    /** How many of the possible PULLS are left, at the worst, by a look at where THE POINT is. */
    private int mostLeft(int possible) {
        for (int c = 0; c < CELLS; c++) {
            tally[c] = 0;
        }
        int most = 0;
        for (int v = LEAST[PULL]; v <= MOST[PULL]; v++) {
            if ((possible >> v & 1) == 1) {
                int c = points[v];
                tally[c]++;
                most = Math.max(most, tally[c]);
            }
        }
        return most;
    }

    /** One removal in the trial, with its YEAR; false: it is refused. */
    private boolean removeDraw(int i, int c) {
        if (!trial.hasDraw(i) || !isCell(c) || trial.year >= LAST_YEAR) {
            return false;
        }
        trial.setTrait(i, AT, c);
        trial.passYear();
        return true;
    }

    private int imagesKept() {
        int found = 0;
        for (int k = 0; k < IMAGES; k++) {
            if (kept[k]) {
                found++;
            }
        }
        return found;
    }

    /** The town at one time: all that an IMAGE keeps. */
    private static final class Town {
        private final int[] traits = new int[MOST_DRAWS * TRAITS];
        private int draws, foot, point, stiff, bears, year;

        private Town() {
            clear();
        }

        private void clear() {
            draws = 0;
            foot = 44;
            point = 44;
            stiff = 2;
            bears = 9;
            year = 0;
        }

        private void copyFrom(Town other) {
            System.arraycopy(other.traits, 0, traits, 0, MOST_DRAWS * TRAITS);
            draws = other.draws;
            foot = other.foot;
            point = other.point;
            stiff = other.stiff;
            bears = other.bears;
            year = other.year;
        }

        private boolean hasDraw(int i) {
            return i >= 0 && i < draws;
        }

        private boolean isFull() {
            return draws >= MOST_DRAWS;
        }

        private int trait(int i, int what) {
            return traits[TRAITS * i + what];
        }

        private void setTrait(int i, int what, int v) {
            traits[TRAITS * i + what] = v;
        }

        private void addDraw(int kind, int pull, int at, int since) {
            if (isFull()) {
                return;
            }
            int i = draws;
            draws++;
            setTrait(i, KIND, kind);
            setTrait(i, PULL, pull);
            setTrait(i, AT, at);
            setTrait(i, SINCE, since);
        }

        private static int strength(int kind, int pull) {
            int market = (pull + 1) / 2;
            switch (kind) {
                case 0: return pull;
                case 1: return market;
                case 2: return market + 1;
                default: return 3 * market;
            }
        }

        private int gap(int i) {
            return far(trait(i, AT), point);
        }

        private int force(int i) {
            int parts = 1 + far(trait(i, AT), point);
            if (parts <= 0 || year < trait(i, SINCE)) {
                return 0;
            }
            return 60 * strength(trait(i, KIND), trait(i, PULL)) / parts;
        }

        private int lean() {
            return far(point, foot);
        }

        private int pullBack() {
            return stiff * lean();
        }

        private boolean isFallen() {
            return lean() > bears;
        }

        /** Which DRAW HAS it now. */
        private int holder() {
            int lean = lean();
            if (lean > bears) {
                return NONE;
            }
            int found = NONE;
            int greatest = stiff * lean;
            for (int i = 0; i < draws; i++) {
                int force = force(i);
                if (force > greatest) {
                    found = i;
                    greatest = force;
                }
            }
            return found;
        }

        /** Where a YEAR in which that DRAW HAS it takes THE POINT. */
        private int nextPoint(int holder) {
            if (isFallen()) {
                return point;
            }
            return stepTowards(holder == NONE ? foot : trait(holder, AT));
        }

        private int stepTowards(int goal) {
            int alongX = goal / SIDE - point / SIDE;
            int alongY = goal % SIDE - point % SIDE;
            if (Math.abs(alongX) >= Math.abs(alongY)) {
                return point + SIDE * sign(alongX);
            }
            return point + sign(alongY);
        }

        /** Answers which DRAW HAD it in that YEAR. */
        private int passYear() {
            int holder = holder();
            point = nextPoint(holder);
            year++;
            return holder;
        }

        private void passYears(int n) {
            for (int y = 0; y < n; y++) {
                passYear();
            }
        }

        private int greatestLean(int n) {
            int greatest = lean();
            for (int y = 0; y < n; y++) {
                passYear();
                greatest = Math.max(greatest, lean());
            }
            return greatest;
        }

        private int movesIn(int n) {
            int moves = 0;
            for (int y = 0; y < n; y++) {
                int was = point;
                passYear();
                if (point != was) {
                    moves++;
                }
            }
            return moves;
        }

        private int holdersIn(int n) {
            int bits = 0;
            for (int y = 0; y < n; y++) {
                int holder = passYear();
                if (holder != NONE) {
                    bits |= 1 << holder;
                }
            }
            return bits;
        }

        private int yearsHeldBy(int i, int n) {
            int held = 0;
            for (int y = 0; y < n; y++) {
                if (passYear() == i) {
                    held++;
                }
            }
            return held;
        }

        private int yearsTo(int c, int most) {
            for (int n = 0; n <= most; n++) {
                if (point == c) {
                    return n;
                }
                passYear();
            }
            return NONE;
        }

        private int yearsToFall(int most) {
            for (int n = 0; n <= most; n++) {
                if (isFallen()) {
                    return n;
                }
                passYear();
            }
            return NONE;
        }

        private int pullOfAll() {
            int sum = 0;
            for (int i = 0; i < draws; i++) {
                sum += trait(i, PULL);
            }
            return sum;
        }

        private int drawing() {
            int found = 0;
            for (int i = 0; i < draws; i++) {
                if (year >= trait(i, SINCE)) {
                    found++;
                }
            }
            return found;
        }
    }

    /** THE TAPE, and the reading of what it tells. */
    private static final class Tape {
        private static final int ROOM = 160;
        private static final int END = 0, NAME = 1, NUMBER = 2, CLOSE = 3;
        private static final int NO_TOKEN = 1, MISPLACED = 2, OUT_OF_BOUNDS = 3, TOLD_TWICE = 4, TOO_MANY = 5;
        /** The first four words stand in the order of the KINDS. */
        private static final int FOOT = 4, STIFF = 5, WORDS = 7;

        private final byte[] bytes = new byte[ROOM];
        private int length;
        private int place;
        private int token, tokenPlace, number;
        private int told;
        private int fault, faultPlace;

        private int append(int c) {
            if (length >= ROOM) {
                return FULL;
            }
            bytes[length] = (byte) c;
            length++;
            return length;
        }

        /** How many lines it told to a town that was cleared; the fault says whether it may be taken. */
        private int tellTo(Town town) {
            place = 0;
            told = 0;
            fault = 0;
            faultPlace = 0;
            int lines = 0;
            readToken();
            // A line takes bytes, so there are never more lines than bytes.
            while (fault == 0 && token != END && lines < ROOM) {
                int word = wordOfToken();
                if (word == NONE) {
                    fail(MISPLACED);
                } else if (word < FOOT) {
                    readDraw(town, word);
                } else {
                    readSetting(town, word);
                }
                lines++;
                readToken();
            }
            return lines;
        }

        private void readDraw(Town town, int kind) {
            if (town.isFull()) {
                fail(TOO_MANY);
            }
            int pull = expectNumber(LEAST[PULL], MOST[PULL]);
            int at = expectNumber(LEAST[AT], MOST[AT]);
            int since = expectNumber(LEAST[SINCE], MOST[SINCE]);
            expectClose();
            if (fault == 0) {
                town.addDraw(kind, pull, at, since);
            }
        }

        private void readSetting(Town town, int word) {
            if ((told >> word & 1) == 1) {
                fail(TOLD_TWICE);
            }
            told |= 1 << word;
            int v = expectNumber(0, mostOfSetting(word));
            expectClose();
            if (fault != 0) {
                return;
            }
            if (word == FOOT) {
                town.foot = v;
                town.point = v;
            } else if (word == STIFF) {
                town.stiff = v;
            } else {
                town.bears = v;
            }
        }

        private static int mostOfSetting(int word) {
            switch (word) {
                case FOOT: return CELLS - 1;
                case STIFF: return MOST_STIFF;
                default: return MOST_BEARS;
            }
        }

        private int expectNumber(int least, int most) {
            readToken();
            if (token != NUMBER) {
                fail(MISPLACED);
            } else if (!within(number, least, most)) {
                fail(OUT_OF_BOUNDS);
            }
            return number;
        }

        private void expectClose() {
            readToken();
            if (token != CLOSE) {
                fail(MISPLACED);
            }
        }

        /** The first fault met is the one that is told, whatever is found behind it. */
        private void fail(int found) {
            if (fault == 0) {
                fault = found;
                faultPlace = tokenPlace;
            }
        }

        private void readToken() {
            if (fault != 0) {
                return;
            }
            while (place < length && bytes[place] == ' ') {
                place++;
            }
            tokenPlace = place;
            if (place >= length) {
                token = END;
            } else if (isLetter(bytes[place])) {
                readName();
            } else if (isFigure(bytes[place])) {
                readNumber();
            } else if (bytes[place] == ';') {
                token = CLOSE;
                place++;
            } else {
                fail(NO_TOKEN);
            }
        }

        private void readName() {
            token = NAME;
            while (place < length && isLetter(bytes[place])) {
                place++;
            }
        }

        private void readNumber() {
            token = NUMBER;
            number = 0;
            while (place < length && isFigure(bytes[place])) {
                number = 10 * number + bytes[place] - '0';
                place++;
            }
            if (place - tokenPlace > 2) {
                fail(NO_TOKEN);
            }
        }

        private static boolean isLetter(int c) {
            return c >= 'a' && c <= 'z';
        }

        private static boolean isFigure(int c) {
            return c >= '0' && c <= '9';
        }

        private int wordOfToken() {
            if (token != NAME) {
                return NONE;
            }
            for (int word = 0; word < WORDS; word++) {
                if (tokenSays(spelling(word))) {
                    return word;
                }
            }
            return NONE;
        }

        private boolean tokenSays(String name) {
            if (place - tokenPlace != name.length()) {
                return false;
            }
            for (int i = 0; i < name.length(); i++) {
                if (bytes[tokenPlace + i] != name.charAt(i)) {
                    return false;
                }
            }
            return true;
        }

        private static String spelling(int word) {
            switch (word) {
                case 0: return "chimney";
                case 1: return "market";
                case 2: return "chapel";
                case 3: return "dock";
                case FOOT: return "foot";
                case STIFF: return "stiff";
                default: return "bears";
            }
        }
    }

    /** What was SEEN: behind how many YEARS THE POINT is at which CELL. */
    private static final class Sightings {
        private final int[] years = new int[MOST_SEEN];
        private final int[] cells = new int[MOST_SEEN];
        private int size;

        private int add(int n, int c) {
            if (size >= MOST_SEEN) {
                return FULL;
            }
            years[size] = n;
            cells[size] = c;
            size++;
            return size;
        }

        /** The town runs its YEARS meanwhile. */
        private boolean fits(Town town) {
            int latest = latestYear();
            for (int n = 0; n <= latest; n++) {
                if (!fitsAt(n, town.point)) {
                    return false;
                }
                town.passYear();
            }
            return true;
        }

        private int latestYear() {
            int latest = 0;
            for (int s = 0; s < size; s++) {
                latest = Math.max(latest, years[s]);
            }
            return latest;
        }

        private boolean fitsAt(int n, int point) {
            for (int s = 0; s < size; s++) {
                if (years[s] == n && cells[s] != point) {
                    return false;
                }
            }
            return true;
        }
    }

    /** How likely each CELL is, as a weight out of a whole, behind YEARS of which some are calm. */
    private static final class Odds {
        private final long[] weights = new long[CELLS];
        private final long[] later = new long[CELLS];
        private long whole;

        /** The town is used up: its POINT is put wherever it may be. */
        private void spread(Town town, int calm, int n) {
            clear(weights);
            weights[town.point] = 1;
            whole = 1;
            for (int y = 0; y < n; y++) {
                passYear(town, calm);
                town.year++;
                whole *= 10;
            }
        }

        private void passYear(Town town, int calm) {
            clear(later);
            for (int c = 0; c < CELLS; c++) {
                if (weights[c] != 0) {
                    town.point = c;
                    later[c] += calm * weights[c];
                    later[town.nextPoint(town.holder())] += (10 - calm) * weights[c];
                }
            }
            System.arraycopy(later, 0, weights, 0, CELLS);
        }

        private static void clear(long[] row) {
            for (int c = 0; c < row.length; c++) {
                row[c] = 0;
            }
        }

        private long leanTotal(int foot) {
            long sum = 0;
            for (int c = 0; c < CELLS; c++) {
                sum += weights[c] * far(c, foot);
            }
            return sum;
        }
    }

    /** A SHEET, whose lane is kept beside its CELLS so that a fault is found before it happens. */
    private static final class Sheet {
        private static final int NOTHING = -1;
        private static final int BYTES = 0, SHORTS = 1;

        private final int[] cells = new int[SHEET_CELLS];
        private int lane = NOTHING;
        private int size;

        private boolean isNothing() {
            return lane == NOTHING;
        }

        private void renew(int newLane, int newSize) {
            lane = newLane;
            size = newSize;
            for (int i = 0; i < SHEET_CELLS; i++) {
                cells[i] = 0;
            }
        }

        /** What the machine would find, if CELL i were used in that lane; 0: nothing. */
        private int faultOf(int asLane, int i) {
            if (isNothing()) {
                return FAULT_NULL;
            }
            if (lane != asLane) {
                return FAULT_CAST;
            }
            return i < 0 || i >= size ? FAULT_INDEX : 0;
        }

        private int faultOfPair(int asLane, int i) {
            int first = faultOf(asLane, i);
            return first != 0 ? first : faultOf(asLane, i + 1);
        }

        private void write(int i, int v) {
            if (lane == BYTES) {
                cells[i] = (byte) v;
            } else if (lane == SHORTS) {
                cells[i] = (short) v;
            } else {
                cells[i] = v;
            }
        }
    }
}
