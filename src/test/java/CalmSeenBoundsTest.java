/** Promises 27 to 35 (luck, mean, see, forget, kinds, pulls, spots, ask, drift): each bound by itself. */
public final class CalmSeenBoundsTest {
    private static final int ALL_PULLS = (1 << 21) - 2;

    public static void main(String[] args) {
        luckBounds();
        luckOfNoYears();
        luckOfNoneAndAllCalm();
        luckOf8Years();
        luckOfTheFallen();
        meanBounds();
        meanOfNoYears();
        meanAtTheCorners();
        meanOf8Years();
        seeBounds();
        seeIsFull();
        forgetBounds();
        forgetKeepsTheFirst();
        seenIsFromNowOn();
        kindsBounds();
        kindsOfNoneAndAll();
        pullsBounds();
        pullsOfNoneAndAll();
        spotsBounds();
        spotsOfNoneAndAll();
        seenBehind0And30();
        askBounds();
        askBehind1To30();
        askFewerThanNow();
        askTheFirst();
        askAtTheCorners();
        driftBounds();
        driftWithoutDraws();
        driftOfAnySeed();
        driftCountsNow();
        driftOf1And60();
        Due.finish();
    }

    private static void luck(SpireLean x, int v, int c, int n, long upper, long lower) {
        Due.due("luck(" + v + ", " + c + ", " + n + ", 0)", x.luck(v, c, n, 0), upper);
        Due.due("luck(" + v + ", " + c + ", " + n + ", 1)", x.luck(v, c, n, 1), lower);
    }

    private static void mean(SpireLean x, int v, int n, long upper, long lower) {
        Due.due("mean(" + v + ", " + n + ", 0)", x.mean(v, n, 0), upper);
        Due.due("mean(" + v + ", " + n + ", 1)", x.mean(v, n, 1), lower);
    }

    // 27: "n YEARS (0 to 8)", "v out of ten (0 to 10)", a CELL, what 0 and 1, "BAD"
    private static void luckBounds() {
        Bounds.of("luck(v, ..)", States::some, (x, v) -> x.luck(v, 84, 1, 0), 0, 1, 10, 0);
        Bounds.of("luck(.., v, ..)", States::some, (x, v) -> x.luck(0, v, 1, 1), 0, 1, 99, 1);
        Bounds.of("luck(.., v, ..)", States::some, (x, v) -> x.luck(0, 84, v, 0), 0, 0, 8, 1);
        Bounds.of("luck(.., v)", States::some, (x, v) -> x.luck(3, 84, 1, v), 0, 7, 1, 10);
        Bounds.outsideInAll("luck(v, ..)", (x, v) -> x.luck(v, 44, 1, 0), 0, 10);
        Bounds.outsideInAll("luck(.., v, ..)", (x, v) -> x.luck(1, v, 1, 0), 0, 99);
        Bounds.outsideInAll("luck(.., v, ..)", (x, v) -> x.luck(1, 44, v, 0), 0, 8);
        Bounds.outsideInAll("luck(.., v)", (x, v) -> x.luck(1, 44, 1, v), 0, 1);
    }

    // 27: nothing has passed
    private static void luckOfNoYears() {
        SpireLean x = Due.told("dock 20 49 0;stiff 0;");
        for (int v = 0; v <= 10; v++) {
            luck(x, v, 44, 0, 1, 1);
            luck(x, v, 45, 0, 0, 1);
        }
    }

    // 27: v 0 and 10
    private static void luckOfNoneAndAllCalm() {
        SpireLean x = Due.told("dock 20 49 0;stiff 0;");
        for (int n = 1; n <= 8; n++) {
            luck(x, 0, Math.min(44 + n, 49), n, 1, 1);
            luck(x, 0, 44, n, 0, 1);
            luck(x, 10, 44, n, 1, 1);
            luck(x, 10, 45, n, 0, 1);
        }
    }

    // 27: the greatest denominator
    private static void luckOf8Years() {
        SpireLean x = Due.told("dock 20 99 0;foot 0;stiff 0;bears 18;");
        long[] nines = {1, 9, 81, 729, 6561, 59049, 531441, 4782969, 43046721};
        for (int n = 0; n <= 8; n++) {
            long lower = 1;
            for (int i = 0; i < n; i++) {
                lower *= 10;
            }
            luck(x, 9, 0, n, nines[n], lower);
            luck(x, 1, x.runs(n, 0), n, nines[n], lower);
        }
        luck(x, 1, 0, 8, 1, 100000000);
        luck(x, 5, 0, 8, 1, 256);
        luck(x, 2, 0, 8, 1, 390625);
        // one move in any of 8 YEARS: 8 times 9 to the 7th by 10 to the 8th
        luck(x, 9, 10, 8, 4782969, 12500000);
    }

    // 27: FALLEN it stays; "(THE POINT stays in it)", but the YEAR goes by
    private static void luckOfTheFallen() {
        SpireLean x = Due.told("dock 20 49 0;stiff 0;bears 0;");
        luck(x, 5, 45, 8, 255, 256);
        luck(x, 5, 46, 8, 0, 1);
        x.bend(48);
        luck(x, 5, 48, 8, 1, 1);
        x = Due.told("dock 20 49 7;stiff 0;");
        luck(x, 9, 44, 7, 1, 1);
        luck(x, 9, 45, 8, 1, 10);
        x.years(1);
        luck(x, 9, 44, 6, 1, 1);
        luck(x, 9, 45, 7, 1, 10);
        x = States.old();
        luck(x, 3, 84, 8, 1, 1);
    }

    // 28: "Likewise"
    private static void meanBounds() {
        Bounds.of("mean(v, ..)", States::some, (x, v) -> x.mean(v, 1, 0), 0, 4, 10, 3);
        Bounds.of("mean(.., v, ..)", States::some, (x, v) -> x.mean(0, v, 0), 0, 3, 8, 4);
        Bounds.of("mean(.., v)", States::some, (x, v) -> x.mean(3, 1, v), 0, 37, 1, 10);
        Bounds.outsideInAll("mean(v, ..)", (x, v) -> x.mean(v, 1, 0), 0, 10);
        Bounds.outsideInAll("mean(.., v, ..)", (x, v) -> x.mean(1, v, 0), 0, 8);
        Bounds.outsideInAll("mean(.., v)", (x, v) -> x.mean(1, 1, v), 0, 1);
    }

    private static void meanOfNoYears() {
        SpireLean x = Due.told("foot 0;bears 18;");
        int[][] rows = {{0, 0}, {1, 1}, {99, 18}};
        for (int[] row : rows) {
            x.bend(row[0]);
            for (int v = 0; v <= 10; v++) {
                mean(x, v, 0, row[1], 1);
            }
            mean(x, 10, 8, row[1], 1);
        }
    }

    // 28: the first and the last CELL count as the others do
    private static void meanAtTheCorners() {
        SpireLean x = Due.told("foot 99;bears 18;");
        x.bend(0);
        mean(x, 5, 0, 18, 1);
        mean(x, 5, 1, 35, 2);
        x = Due.told("foot 0;bears 18;");
        x.bend(99);
        mean(x, 5, 0, 18, 1);
        mean(x, 5, 1, 35, 2);
    }

    private static void meanOf8Years() {
        SpireLean x = Due.told("dock 20 99 0;foot 0;stiff 0;bears 18;");
        mean(x, 0, 8, 8, 1);
        mean(x, 10, 8, 0, 1);
        mean(x, 5, 8, 4, 1);
        mean(x, 9, 8, 4, 5);
        mean(x, 1, 8, 36, 5);
        mean(x, 3, 1, 7, 10);
        // it falls behind the first move: all but 1 by 10 to the 8th
        x.bears(0);
        mean(x, 1, 8, 99999999, 100000000);
        // from 18 on back to THE FOOT
        x = Due.told("foot 0;bears 18;");
        x.bend(99);
        mean(x, 1, 8, 54, 5);
    }

    // 29: "behind n YEARS (0 to 30) THE POINT is at a CELL ... BAD"
    private static void seeBounds() {
        Bounds.of("see(v, ..)", States::some, (x, v) -> x.see(v, 0), 0, 3, 30, 3);
        Bounds.of("see(.., v)", States::some, (x, v) -> x.see(0, v), 0, 3, 99, 3);
        Bounds.outsideInAll("see(v, ..)", (x, v) -> x.see(v, 0), 0, 30);
        Bounds.outsideInAll("see(.., v)", (x, v) -> x.see(0, v), 0, 99);
    }

    // 29: "how many are ... FULL"
    private static void seeIsFull() {
        SpireLean x = new SpireLean();
        for (int n = 1; n <= 6; n++) {
            Due.due("see, the " + n + "th", x.see(30, 99), n);
        }
        Due.due("see, the 7th", x.see(0, 44), Due.FULL);
        Due.due("count(0)", x.count(0), 6);
        x.forget(5);
        Due.due("see, the 6th again", x.see(0, 44), 6);
        Due.due("see, the 7th again", x.see(0, 44), Due.FULL);
        Bounds.refused("see, the 7th", States::full, y -> y.see(0, 0), Due.FULL);
        // "nothing is SEEN" behind a text that is taken: six more come
        x.text();
        Due.due("see, the first", x.see(0, 44), 1);
    }

    // 30: "how many there were. BAD"
    private static void forgetBounds() {
        Bounds.of("forget of none", States::fresh, (x, v) -> x.forget(v), 0, 0, 0, 0);
        Bounds.of("forget of some", States::some, (x, v) -> x.forget(v), 0, 2, 2, 2);
        Bounds.of("forget of all", States::full, (x, v) -> x.forget(v), 0, 6, 6, 6);
    }

    // 30: "SEEN are the first n alone"
    private static void forgetKeepsTheFirst() {
        SpireLean x = Due.told("chimney 20 49 0;stiff 0;");
        int[] cells = {44, 45, 46, 47, 48, 0};
        for (int n = 0; n < 6; n++) {
            x.see(n, cells[n]);
        }
        Due.due("six, the last is not so", x.pulls(0), 0);
        Due.due("forget(5)", x.forget(5), 6);
        Due.due("five", x.pulls(0), ALL_PULLS);
        Due.due("count(0)", x.count(0), 5);
        x.see(0, 0);
        Due.due("the last is not so", x.pulls(0), 0);
        Due.due("forget(0)", x.forget(0), 6);
        Due.due("none", x.pulls(0), ALL_PULLS);
        Due.due("count(0)", x.count(0), 0);
    }

    // "SEEN (6): behind n YEARS (0 to 30) from now on"
    private static void seenIsFromNowOn() {
        SpireLean x = Due.told("dock 20 49 0;stiff 0;");
        x.see(1, 45);
        Due.due("now", x.kinds(0), 15);
        x.years(1);
        Due.due("a YEAR later", x.kinds(0), 0);
        x.bend(44);
        Due.due("from 44 again", x.kinds(0), 15);
        x.years(30);
        x.forget(0);
        x.see(30, 49);
        Due.due("the draw has it for ever", x.kinds(0), 15);
    }

    // 31: "BAD"
    private static void kindsBounds() {
        Bounds.outside("kinds of none", States::fresh, (x, v) -> x.kinds(v), 0, -1);
        Bounds.of("kinds of some", States::some, (x, v) -> x.kinds(v), 0, 0, 2, 0);
        Bounds.of("kinds of all", States::full, (x, v) -> x.kinds(v), 0, 9, 4, 15);
    }

    // 31: all KINDS, none, each by itself
    private static void kindsOfNoneAndAll() {
        SpireLean x = Due.told("market 1 4 0;stiff 10;bears 8;");
        Due.due("nothing SEEN", x.kinds(0), 15);
        // STRENGTH 1, 1, 2, 3: behind 3 YEARS at 34 or at 14
        x.see(3, 14);
        Due.due("chapel, dock", x.kinds(0), 12);
        x.forget(0);
        x.see(3, 34);
        Due.due("chimney, market", x.kinds(0), 3);
        x.see(3, 14);
        Due.due("both at once", x.kinds(0), 0);
        // STRENGTH 3, 2, 3, 6 by STIFF 20: at LEAN 2 FORCE is 45, 30, 45, 90, at LEAN 3 it is 60, 40, 60, 120
        x = Due.told("market 3 49 0;stiff 20;bears 18;");
        x.see(2, 46);
        Due.due("all of them", x.kinds(0), 15);
        x.see(3, 47);
        Due.due("all but the market", x.kinds(0), 13);
        x.see(4, 48);
        Due.due("the dock alone", x.kinds(0), 8);
        x.forget(0);
        x.see(3, 45);
        Due.due("the market alone", x.kinds(0), 2);
    }

    // 32: "BAD"
    private static void pullsBounds() {
        Bounds.outside("pulls of none", States::fresh, (x, v) -> x.pulls(v), 0, -1);
        Bounds.of("pulls of some", States::some, (x, v) -> x.pulls(v), 0, 0, 2, 0);
        // the dock at 84 must have 84 at least, as the chapel at 60; the one at 99 no more than 180, as that
        Bounds.of("pulls of all", States::full, (x, v) -> x.pulls(v), 0, ALL_PULLS & -8, 4, (1 << 19) - 2);
    }

    // 32: "(bits 1 to 20)": all of them, none, the least, the greatest
    private static void pullsOfNoneAndAll() {
        SpireLean x = Due.told("chimney 1 34 0;chimney 5 54 0;stiff 0;");
        Due.due("nothing SEEN", x.pulls(1), 2097150);
        x.see(1, 34);
        Due.due("1 alone", x.pulls(1), 2);
        x.see(1, 54);
        Due.due("none", x.pulls(1), 0);
        x.forget(0);
        x.see(1, 54);
        Due.due("all but 1", x.pulls(1), 2097148);
        x.alter(0, 1, 19);
        Due.due("20 alone", x.pulls(1), 1 << 20);
        x.alter(0, 1, 20);
        Due.due("none", x.pulls(1), 0);
    }

    // 33: "BAD"
    private static void spotsBounds() {
        Bounds.outside("spots of none", States::fresh, (x, v) -> x.spots(v, 0), 0, -1);
        Bounds.of("spots of some", States::some, (x, v) -> x.spots(v, 0), 0, 0, 2, 0);
        Bounds.of("spots of all", States::full, (x, v) -> x.spots(v, 0), 0, 1, 4, 100);
        Bounds.of("spots(0, v)", States::full, (x, v) -> x.spots(0, v), 0, 1, 1, 84);
    }

    // 33: "how many (what 0), the first (1)", "NONE (1): there are none"
    private static void spotsOfNoneAndAll() {
        SpireLean x = Due.told("dock 20 50 0;stiff 0;bears 18;");
        Due.due("all: how many", x.spots(0, 0), 100);
        Due.due("all: the first", x.spots(0, 1), 0);
        x.see(30, 99);
        Due.due("the last alone", x.spots(0, 0), 1);
        Due.due("the last alone", x.spots(0, 1), 99);
        x.forget(0);
        x.see(30, 0);
        Due.due("the first alone", x.spots(0, 0), 1);
        Due.due("the first alone", x.spots(0, 1), 0);
        x.see(0, 0);
        Due.due("none", x.spots(0, 0), 0);
        Due.due("none", x.spots(0, 1), Due.NONE);
        Due.due("AT", x.draw(0, 2), 50);
        Bounds.refused("spots, NONE", States::some, y -> y.spots(0, 1), Due.NONE);
    }

    // 31 to 33: SEEN behind 0 and behind 30 YEARS
    private static void seenBehind0And30() {
        SpireLean x = Due.told("dock 20 49 0;stiff 0;");
        x.see(0, 45);
        Due.due("not as it is now", x.kinds(0), 0);
        Due.due("not as it is now", x.pulls(0), 0);
        Due.due("not as it is now", x.spots(0, 0), 0);
        x.bend(45);
        Due.due("as it is now", x.kinds(0), 15);
        Due.due("as it is now", x.pulls(0), ALL_PULLS);
        Due.due("as it is now", x.spots(0, 0), 100);
        x = Due.told("dock 20 45 29;");
        x.see(30, 45);
        Due.due("behind 30", x.kinds(0), 15);
        x.alter(0, 3, 30);
        Due.due("behind 31", x.kinds(0), 0);
        x.forget(0);
        x.see(30, 44);
        Due.due("behind 31", x.pulls(0), ALL_PULLS);
        x.alter(0, 3, 29);
        Due.due("behind 30", x.pulls(0), 0);
        Due.due("behind 30: AT THE FOOT alone", x.spots(0, 0), 1);
    }

    // 34: "BAD"
    private static void askBounds() {
        Bounds.outside("ask of none", States::fresh, (x, v) -> x.ask(v, 0), 0, -1);
        Bounds.of("ask of some", States::some, (x, v) -> x.ask(v, 0), 0, Due.NONE, 2, Due.NONE);
        Bounds.of("ask of all", States::full, (x, v) -> x.ask(v, 0), 0, Due.NONE, 4, Due.NONE);
        SpireLean x = Due.told("chimney 1 34 0;chimney 5 54 0;stiff 0;");
        Due.due("ask(1, 0)", x.ask(1, 0), 1);
        Due.due("ask(1, 1)", x.ask(1, 1), 19);
        Due.due("ask(1, 2)", x.ask(1, 2), Due.BAD);
        Due.due("ask(1, -1)", x.ask(1, -1), Due.BAD);
        Due.due("ask(2, 0)", x.ask(2, 0), Due.BAD);
    }

    // 34: "Behind how many YEARS (0 to 30)"; behind 0 all PULLS are alike
    private static void askBehind1To30() {
        int[][] rows = {{0, 1}, {1, 2}, {14, 15}, {28, 29}, {29, 30}, {30, Due.NONE}, {60, Due.NONE}};
        for (int[] row : rows) {
            SpireLean x = Due.told("chimney 5 34 " + row[0] + ";chimney 5 54 " + row[0] + ";stiff 0;");
            Due.due("SINCE " + row[0], x.ask(1, 0), row[1]);
            Due.due("SINCE " + row[0], x.ask(1, 1), row[1] == Due.NONE ? Due.NONE : 15);
        }
    }

    // 34: "fewer than now", "NONE: behind none"
    private static void askFewerThanNow() {
        SpireLean x = Due.told("chimney 19 34 0;chimney 5 54 0;stiff 0;");
        Due.due("19 of 20", x.ask(1, 1), 19);
        x.see(1, 54);
        Due.due("1 is left: none are fewer", x.ask(1, 0), Due.NONE);
        Due.due("1 is left: none are fewer", x.ask(1, 1), Due.NONE);
        x.forget(0);
        x.see(1, 34);
        Due.due("19 are left, alike", x.pulls(1), ALL_PULLS & ~(1 << 20));
        Due.due("19 are left, alike", x.ask(1, 0), Due.NONE);
        x.see(1, 0);
        Due.due("none is left", x.ask(1, 0), Due.NONE);
        Due.due("none is left", x.ask(1, 1), Due.NONE);
        x = Due.told("chimney 5 54 0;stiff 0;");
        Due.due("20 are left, alike", x.ask(0, 0), Due.NONE);
        Bounds.refused("ask, NONE", States::full, y -> y.ask(0, 0), Due.NONE);
    }

    // 34: "fewest are left at the worst ... the first (what 0)"
    private static void askTheFirst() {
        // behind 1 YEAR and each later one the same two groups
        SpireLean x = Due.told("chimney 10 34 0;chimney 5 54 0;stiff 0;");
        Due.due("the first of 30", x.ask(1, 0), 1);
        Due.due("10 and 10", x.ask(1, 1), 10);
        // a later look that tells more: at LEAN 1 FORCE is 12 by PULL against 20, at LEAN 2 15 against 40, ..
        x = Due.told("chimney 5 49 0;stiff 20;bears 18;");
        Due.due("PULL 1 is back behind 2", x.runs(2, 0), 46);
        Due.due("a later look", x.ask(0, 0), 4);
        Due.due("a later look", x.ask(0, 1), 17);
    }

    // 34: the first and the last CELL count as the others do
    private static void askAtTheCorners() {
        // at 0 the first has 60: a PULL of 3 and more takes it to 1
        SpireLean x = Due.told("chimney 1 0 0;chimney 3 1 0;stiff 0;foot 0;");
        Due.due("at 0", x.ask(1, 0), 1);
        Due.due("at 0", x.ask(1, 1), 18);
        Due.due("at 0 again", x.ask(1, 1), 18);
        x = Due.told("chimney 1 99 0;chimney 3 98 0;stiff 0;foot 99;");
        Due.due("at 99", x.ask(1, 0), 1);
        Due.due("at 99", x.ask(1, 1), 18);
        Due.due("at 99 again", x.ask(1, 1), 18);
    }

    // 35: "n YEARS (1 to 60)", what 0 and 1, "BAD"
    private static void driftBounds() {
        Bounds.outside("drift(.., v, ..) of none", States::fresh, (x, v) -> x.drift(7, v, 0), 1, 60);
        Bounds.outside("drift(.., v) of none", States::fresh, (x, v) -> x.drift(7, 1, v), 0, 1);
        Bounds.outside("drift(.., v, ..)", States::full, (x, v) -> x.drift(7, v, 0), 1, 60);
        Bounds.outside("drift(.., v)", States::full, (x, v) -> x.drift(7, 1, v), 0, 1);
        Due.due("drift of no YEARS", States.some().drift(7, 0, 0), Due.BAD);
        Due.due("drift of 61 YEARS", States.some().drift(7, 61, 1), Due.BAD);
    }

    // 35: "STATE: there are no DRAWS"
    private static void driftWithoutDraws() {
        Bounds.refused("drift without DRAWS", States::fresh, x -> x.drift(7, 1, 0), Due.STATE);
        Bounds.refused("drift without DRAWS", States::fresh, x -> x.drift(7, 60, 1), Due.STATE);
        SpireLean x = States.some();
        x.raze(0);
        Due.due("drift behind raze(0)", x.drift(7, 1, 0), Due.STATE);
        x.put(0, 1, 0);
        Due.due("drift of one", x.drift(7, 1, 0) >= 0 ? 1 : 0, 1);
    }

    /** What is got of a seed, by numbers that have room enough. */
    private static int got(long seed) {
        long next = Math.floorMod(seed * 1103515245L + 12345L, 1L << 32);
        return (int) (next / 65536 % 32768);
    }

    // 35: any seed is taken, and wraps around; bit 31 is not got
    private static void driftOfAnySeed() {
        int[] seeds = {0, 1, 2, 3, -1, -2, 7, 65535, 65536, 1 << 30, Integer.MIN_VALUE, Integer.MIN_VALUE + 1,
            Integer.MAX_VALUE, Integer.MAX_VALUE - 1};
        for (int seed : seeds) {
            int got = got(seed);
            for (int draws = 1; draws <= 5; draws++) {
                SpireLean x = Due.told("dock 9 80 0;dock 9 8 0;dock 9 88 0;dock 9 0 0;dock 9 40 0;stiff 0;bears 18;");
                x.raze(draws);
                int drifted = x.drift(seed, 1, 0);
                x.alter(got % draws, 2, got / 8 % 100);
                Due.due("drift(" + seed + ", 1, 0) of " + draws, drifted, x.years(1));
            }
        }
        Due.due("bit 31 alone does not tell", Due.told("dock 9 80 0;").drift(0, 1, 0),
                Due.told("dock 9 80 0;").drift(Integer.MIN_VALUE, 1, 0));
    }

    // 35: "the greatest LEAN behind any of them, now too (1)"
    private static void driftCountsNow() {
        SpireLean x = Due.told("dock 20 80 0;foot 0;stiff 0;bears 18;");
        x.bend(99);
        Due.due("now", x.drift(1, 1, 1), 18);
        Due.due("now", x.drift(1, 60, 1), 18);
        Due.due("behind 1", x.drift(1, 1, 0), 89);
        // FALLEN it stays
        x.bears(17);
        Due.due("FALLEN", x.drift(1, 60, 0), 99);
        Due.due("FALLEN", x.drift(1, 60, 1), 18);
        // BY YEARS: it changes nothing, in the last YEAR too
        x = States.old();
        x.drift(1, 60, 0);
        Due.due("rule(1)", x.rule(1), 999);
        Due.due("draw(0, 2)", x.draw(0, 2), 84);
        Due.due("draw(1, 2)", x.draw(1, 2), 28);
        Due.due("draw(2, 2)", x.draw(2, 2), 60);
    }

    // 35: 1 and 60 YEARS, held against the calls that do the same
    private static void driftOf1And60() {
        for (int n : new int[] {1, 2, 59, 60}) {
            SpireLean x = Due.told("dock 9 80 0;chimney 3 8 2;market 20 88 0;stiff 1;bears 18;");
            long seed = -987654321;
            int drifted = x.drift((int) seed, n, 0);
            int most = x.drift((int) seed, n, 1);
            int greatest = x.rule(4);
            for (int y = 0; y < n; y++) {
                int got = got(seed);
                seed = Math.floorMod(seed * 1103515245L + 12345L, 1L << 32);
                x.alter(got % 3, 2, got / 8 % 100);
                x.years(1);
                greatest = Math.max(greatest, x.rule(4));
            }
            Due.due("drift of " + n, drifted, x.rule(3));
            Due.due("the greatest LEAN of " + n, most, greatest);
        }
    }
}
