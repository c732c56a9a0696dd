/** Promises 14 to 19 (years, runs, falls, comes, share, turn): each bound by itself. */
public final class YearsBoundsTest {
    public static void main(String[] args) {
        yearsBounds();
        yearsAreFull();
        yearsOf0();
        runsBounds();
        runsOf0();
        runsOf60();
        runsPastTheLastYear();
        runsOfTheFallen();
        fallsNow();
        fallsBehind60();
        comesBounds();
        comesBehind60();
        comesFirst();
        shareBounds();
        shareOfNoneAndAll();
        turnIsNotNow();
        turnBehind60();
        turnToNoneAndFromNone();
        Due.finish();
    }

    /** It is FALLEN first, at 45, behind n YEARS. */
    private static SpireLean movesBehind(int n) {
        return Due.told("dock 20 45 " + (n - 1) + ";bears 0;");
    }

    // 14: "n YEARS (0 to 30) ... BAD"
    private static void yearsBounds() {
        Bounds.of("years of none", States::fresh, (x, v) -> x.years(v), 0, 44, 30, 44);
        Bounds.of("years of some", States::some, (x, v) -> x.years(v), 0, 85, 30, 84);
        Bounds.outsideInAll("years", (x, v) -> x.years(v), 0, 30);
    }

    // 14: "FULL: YEAR would be 1000 or more"
    private static void yearsAreFull() {
        for (int n = 1; n <= 30; n++) {
            SpireLean x = new SpireLean();
            States.toLastYear(x);
            Due.due("years(" + n + ") in YEAR 999", x.years(n), Due.FULL);
            Due.due("years(0) in YEAR 999", x.years(0), 44);
        }
        for (int n = 1; n <= 30; n++) {
            SpireLean x = new SpireLean();
            for (int i = 0; i < 32; i++) {
                x.years(30);
            }
            x.years(30 - n);
            x.years(10);
            Due.due("rule(1)", x.rule(1), 1000 - n);
            Due.due("years(" + n + ") to YEAR 1000", x.years(n), Due.FULL);
            Due.due("rule(1)", x.rule(1), 1000 - n);
            Due.due("years(" + (n - 1) + ") to YEAR 999", x.years(n - 1), 44);
            Due.due("rule(1)", x.rule(1), 999);
        }
        Bounds.refused("years(1) in the last YEAR", States::old, x -> x.years(1), Due.FULL);
        Bounds.refused("years(30) in the last YEAR", States::old, x -> x.years(30), Due.FULL);
    }

    // 14: none of them
    private static void yearsOf0() {
        SpireLean x = Due.told("dock 20 49 0;");
        Due.due("years(0)", x.years(0), 44);
        Due.due("rule(1)", x.rule(1), 0);
        Due.due("years(1)", x.years(1), 45);
        Due.due("years(0)", x.years(0), 45);
        Due.due("rule(1)", x.rule(1), 1);
    }

    // 15: "n of them (0 to 60)", what 0 to 4, "BAD"
    private static void runsBounds() {
        Bounds.of("runs(v, 0)", States::some, (x, v) -> x.runs(v, 0), 0, 85, 60, 84);
        Bounds.of("runs(60, v)", States::some, (x, v) -> x.runs(60, v), 0, 84, 4, 1);
        Bounds.outsideInAll("runs(v, 0)", (x, v) -> x.runs(v, 0), 0, 60);
        Bounds.outsideInAll("runs(0, v)", (x, v) -> x.runs(0, v), 0, 4);
        for (int what = 0; what < 5; what++) {
            Due.due("runs(61, " + what + ")", States.some().runs(61, what), Due.BAD);
            Due.due("runs(-1, " + what + ")", States.some().runs(-1, what), Due.BAD);
        }
    }

    // 15: none of them: "the greatest LEAN behind any of them, now too"
    private static void runsOf0() {
        SpireLean x = Due.told("dock 20 49 0;foot 40;");
        x.bend(43);
        int[] due = {43, 3, 3, 0, 0};
        for (int what = 0; what < 5; what++) {
            Due.due("runs(0, " + what + ")", x.runs(0, what), due[what]);
        }
        int[] behind1 = {44, 4, 4, 1, 1};
        for (int what = 0; what < 5; what++) {
            Due.due("runs(1, " + what + ")", x.runs(1, what), behind1[what]);
        }
        x.raze(0);
        int[] back1 = {42, 2, 3, 1, 0};
        for (int what = 0; what < 5; what++) {
            Due.due("back: runs(1, " + what + ")", x.runs(1, what), back1[what]);
        }
    }

    // 15: all of them: what comes in the 60th counts, what comes in the 61st does not
    private static void runsOf60() {
        int[] in60 = {45, 1, 1, 1, 1};
        int[] in61 = {44, 0, 0, 0, 0};
        for (int what = 0; what < 5; what++) {
            Due.due("in the 60th: runs(60, " + what + ")", movesBehind(60).runs(60, what), in60[what]);
            Due.due("in the 60th: runs(59, " + what + ")", movesBehind(60).runs(59, what), in61[what]);
            Due.due("in the 61st: runs(60, " + what + ")", movesBehind(61).runs(60, what), in61[what]);
        }
        // all five HAVE it, one behind another
        SpireLean x = Due.told("chimney 1 45 0;chimney 2 45 1;chimney 3 45 2;chimney 4 45 3;chimney 5 45 4;stiff 0;");
        int[] bits = {0, 1, 3, 7, 15, 31, 31};
        for (int n = 0; n < bits.length; n++) {
            Due.due("runs(" + n + ", 4)", x.runs(n, 4), bits[n]);
        }
        // 60 moves: to and fro between 44 and 45
        x = Due.told("market 1 48 0;stiff 20;");
        Due.due("runs(60, 3)", x.runs(60, 3), 60);
        Due.due("runs(59, 0)", x.runs(59, 0), 45);
        Due.due("runs(60, 0)", x.runs(60, 0), 44);
        Due.due("runs(60, 2)", x.runs(60, 2), 1);
        // the greatest there is
        x = Due.told("dock 20 99 0;foot 0;stiff 0;bears 18;");
        Due.due("runs(18, 0)", x.runs(18, 0), 99);
        Due.due("runs(17, 2)", x.runs(17, 2), 17);
        Due.due("runs(60, 2)", x.runs(60, 2), 18);
        Due.due("runs(60, 3)", x.runs(60, 3), 18);
    }

    // 15: BY YEARS is as it would be: it changes nothing, and is never FULL
    private static void runsPastTheLastYear() {
        SpireLean x = Due.told("dock 20 49 0;stiff 0;");
        States.toLastYear(x);
        x.bend(44);
        Due.due("runs(5, 0) in YEAR 999", x.runs(5, 0), 49);
        Due.due("runs(60, 3) in YEAR 999", x.runs(60, 3), 5);
        Due.due("comes(49) in YEAR 999", x.comes(49), 5);
        Due.due("share in YEAR 999", x.share(0, 60, 0), 1);
        x.bears(4);
        Due.due("falls() in YEAR 999", x.falls(), 5);
        Due.due("turn() in YEAR 999", x.turn(), 5);
        Due.due("need() in YEAR 999", x.need(), 5);
        Due.due("rule(1)", x.rule(1), 999);
        Due.due("rule(3)", x.rule(3), 44);
    }

    private static void runsOfTheFallen() {
        SpireLean x = Due.told("dock 20 49 0;bears 2;");
        x.bend(47);
        int[] due = {47, 3, 3, 0, 0};
        for (int what = 0; what < 5; what++) {
            Due.due("FALLEN: runs(60, " + what + ")", x.runs(60, what), due[what]);
        }
    }

    // 16: "behind how many (0 to 60) it is FALLEN first", 0
    private static void fallsNow() {
        SpireLean x = Due.told("bears 0;");
        Due.due("LEAN as much as BEARS", x.falls(), Due.NONE);
        x.bend(45);
        Due.due("LEAN 1 more", x.falls(), 0);
        Due.due("falls of none", new SpireLean().falls(), Due.NONE);
        x = Due.told("dock 20 49 0;stiff 0;bears 0;");
        Due.due("BEARS 0", x.falls(), 1);
        x.bears(4);
        Due.due("BEARS 4", x.falls(), 5);
        x.bears(5);
        Due.due("BEARS 5", x.falls(), Due.NONE);
        x = Due.told("dock 20 99 0;foot 0;stiff 0;bears 17;");
        Due.due("BEARS 17", x.falls(), 18);
        x.bears(18);
        Due.due("BEARS 18", x.falls(), Due.NONE);
    }

    // 16: 60; "NONE: behind none"
    private static void fallsBehind60() {
        Due.due("behind 59", movesBehind(59).falls(), 59);
        Due.due("behind 60", movesBehind(60).falls(), 60);
        Due.due("behind 61", movesBehind(61).falls(), Due.NONE);
        SpireLean x = movesBehind(61);
        x.years(1);
        Due.due("behind 61, a YEAR later", x.falls(), 60);
    }

    // 17: "BAD"
    private static void comesBounds() {
        Bounds.outsideInAll("comes", (x, v) -> x.comes(v), 0, 99);
        SpireLean x = Due.told("dock 20 0 0;foot 99;stiff 0;bears 18;");
        Due.due("comes(0)", x.comes(0), 18);
        Due.due("comes(99)", x.comes(99), 0);
        Due.due("comes(89)", x.comes(89), 1);
        Due.due("comes(98)", x.comes(98), Due.NONE);
        x = Due.told("dock 20 99 0;foot 0;stiff 0;bears 18;");
        Due.due("comes(99)", x.comes(99), 18);
        Due.due("comes(0)", x.comes(0), 0);
    }

    // 17: "behind how many (0 to 60)", "NONE: behind none"
    private static void comesBehind60() {
        Due.due("now", movesBehind(60).comes(44), 0);
        Due.due("behind 59", movesBehind(59).comes(45), 59);
        Due.due("behind 60", movesBehind(60).comes(45), 60);
        Due.due("behind 61", movesBehind(61).comes(45), Due.NONE);
        Due.due("comes of the FALLEN", fallenAt47().comes(47), 0);
        Due.due("comes of the FALLEN", fallenAt47().comes(46), Due.NONE);
    }

    private static SpireLean fallenAt47() {
        SpireLean x = Due.told("bears 2;");
        x.bend(47);
        return x;
    }

    // 17: "first": it comes there again and again
    private static void comesFirst() {
        SpireLean x = Due.told("market 1 48 0;stiff 20;");
        Due.due("comes(45)", x.comes(45), 1);
        Due.due("comes(44)", x.comes(44), 0);
        x.years(1);
        Due.due("comes(44)", x.comes(44), 1);
        Due.due("comes(45)", x.comes(45), 0);
    }

    // 18: "n of them (1 to 60)", i, what 0 and 1, "BAD"
    private static void shareBounds() {
        Bounds.outside("share of none", States::fresh, (x, v) -> x.share(v, 1, 0), 0, -1);
        Bounds.of("share(v, ..)", States::some, (x, v) -> x.share(v, 60, 0), 0, 1, 2, 0);
        Bounds.of("share(v, ..)", States::full, (x, v) -> x.share(v, 60, 0), 0, 1, 4, 0);
        Bounds.of("share(.., v, ..)", States::some, (x, v) -> x.share(0, v, 1), 1, 1, 60, 1);
        Bounds.of("share(.., v)", States::some, (x, v) -> x.share(0, 60, v), 0, 1, 1, 1);
        Due.due("share in none of them", States.some().share(0, 0, 0), Due.BAD);
    }

    // 18: "in which part a DRAW HAS it"
    private static void shareOfNoneAndAll() {
        Due.due("in the 60th", movesBehind(60).share(0, 60, 0), 1);
        Due.due("in the 60th", movesBehind(60).share(0, 60, 1), 60);
        Due.due("ahead of it", movesBehind(60).share(0, 59, 0), 0);
        Due.due("ahead of it", movesBehind(60).share(0, 59, 1), 1);
        Due.due("in the 61st", movesBehind(61).share(0, 60, 0), 0);
        Due.due("in the 61st", movesBehind(61).share(0, 60, 1), 1);
        // it HAS it where it is, too
        SpireLean x = Due.told("dock 20 44 0;");
        Due.due("it is there", x.share(0, 60, 0), 1);
        Due.due("it is there", x.share(0, 60, 1), 1);
        // but not when it is FALLEN
        Due.due("FALLEN behind 1", movesBehind(1).share(0, 60, 0), 1);
        Due.due("FALLEN behind 1", movesBehind(1).share(0, 60, 1), 60);
        // every second YEAR
        x = Due.told("market 1 48 0;stiff 20;");
        Due.due("every second YEAR", x.share(0, 60, 0), 1);
        Due.due("every second YEAR", x.share(0, 60, 1), 2);
        Due.due("every second YEAR, one more", x.share(0, 59, 0), 30);
        Due.due("every second YEAR, one more", x.share(0, 59, 1), 59);
    }

    // 19: "behind how many (1 to 60)"
    private static void turnIsNotNow() {
        SpireLean x = Due.told("chimney 1 45 0;chimney 2 45 1;stiff 0;");
        Due.due("behind 1", x.turn(), 1);
        x.years(1);
        Due.due("no more", x.turn(), Due.NONE);
        Due.due("turn of none", new SpireLean().turn(), Due.NONE);
    }

    // 19: 60; "NONE: behind none". None turns first behind 61: SINCE is 60 at most, and by then THE POINT rests.
    private static void turnBehind60() {
        SpireLean x = Due.told("chimney 1 45 0;chimney 2 45 60;stiff 0;");
        Due.due("to another behind 60", x.turn(), 60);
        x = Due.told("chimney 1 44 0;chimney 9 44 59;stiff 0;");
        Due.due("to another behind 59", x.turn(), 59);
        x = Due.told("dock 20 45 60;");
        Due.due("from none behind 60", x.turn(), 60);
        x = Due.told("dock 20 45 60;chimney 1 44 0;");
        Due.due("to the first of two behind 60", x.turn(), 60);
        x = Due.told("chimney 9 44 0;chimney 9 44 60;");
        Due.due("of two alike the first HAS it still", x.turn(), Due.NONE);
    }

    // 19: "another DRAW (or none)"
    private static void turnToNoneAndFromNone() {
        SpireLean x = Due.told("dock 20 49 0;stiff 0;bears 2;");
        Due.due("to none: FALLEN", x.turn(), 3);
        x = Due.told("market 1 48 0;stiff 20;");
        Due.due("to none: BACK", x.turn(), 1);
        x.years(1);
        Due.due("from none", x.turn(), 1);
        x = Due.told("market 1 48 7;stiff 20;");
        Due.due("from none", x.turn(), 7);
        x.bend(99);
        Due.due("FALLEN for ever", x.turn(), Due.NONE);
    }
}
