/** Promises 20 to 26 (need, brace, lure, site, hush, swap, kind): each bound by itself. */
public final class BestBoundsTest {
    public static void main(String[] args) {
        needIs0To18();
        needCountsNow();
        needCountsBehind60();
        braceIs0To20();
        braceCountsNow();
        braceCountsBehind60();
        lureBounds();
        lureIs1To20();
        lureIn60Years();
        siteBounds();
        siteIsFull();
        siteIsAnyCell();
        siteFirstOfSeveral();
        siteBehind0To60();
        siteIsSinceYear0();
        hushBounds();
        hushOfNoneAndAll();
        hushLessThanAsItIs();
        hushFirstOfSeveral();
        hushInAllYears();
        swapBounds();
        swapOfNoneAndAll();
        swapLessThanAsItIs();
        swapLeastOfSeveral();
        swapChangesCellsAlone();
        kindBounds();
        kindIs0To3();
        kindFirstOfSeveral();
        kindBehind0To60();
        Due.finish();
    }

    /** It comes to 45, its LEAN 1, behind n YEARS first. */
    private static SpireLean movesBehind(int n) {
        return Due.told("dock 20 45 " + (n - 1) + ";bears 0;");
    }

    // 20: "The least BEARS": the least and the most there are; "NONE: none" can not be, 18 bears all
    private static void needIs0To18() {
        Due.due("need of none", new SpireLean().need(), 0);
        SpireLean x = Due.told("dock 20 99 0;foot 0;stiff 0;");
        Due.due("need of the most", x.need(), 18);
        x.alter(0, 2, 98);
        Due.due("need of one less", x.need(), 17);
        x.alter(0, 2, 1);
        Due.due("need of 1", x.need(), 1);
        x.alter(0, 2, 0);
        Due.due("need of 0", x.need(), 0);
        // by whatever BEARS there is
        x.alter(0, 2, 3);
        for (int v = 0; v <= 18; v++) {
            x.bears(v);
            Due.due("need, BEARS " + v, x.need(), 3);
            Due.due("rule(9)", x.rule(9), v);
        }
    }

    // 20: "(now, too)"
    private static void needCountsNow() {
        SpireLean x = Due.told("foot 0;");
        int[][] rows = {{0, 0}, {1, 1}, {11, 2}, {98, 17}, {99, 18}};
        for (int[] row : rows) {
            x.bend(row[0]);
            Due.due("need, THE POINT at " + row[0], x.need(), row[1]);
        }
    }

    // 20: "behind any of 60 YEARS"
    private static void needCountsBehind60() {
        Due.due("behind 60", movesBehind(60).need(), 1);
        Due.due("behind 61", movesBehind(61).need(), 0);
    }

    // 21: "The least STIFF"
    private static void braceIs0To20() {
        Due.due("brace of none", new SpireLean().brace(), 0);
        // LEAN 1 must hold it: FORCE is 60 by how FAR and 1
        SpireLean x = Due.told("chimney 1 43 0;foot 40;bears 1;");
        Due.due("FORCE 20 by LEAN 1", x.brace(), 20);
        x.alter(0, 2, 44);
        Due.due("FORCE 15 by LEAN 1", x.brace(), 15);
        x.alter(0, 2, 49);
        Due.due("FORCE 6 by LEAN 1", x.brace(), 6);
        x.alter(0, 2, 42);
        Due.due("FORCE 30 by LEAN 1", x.brace(), Due.NONE);
        x.alter(0, 0, 2);
        x.alter(0, 2, 46);
        Due.due("FORCE 20 by LEAN 1", x.brace(), 20);
        x.alter(0, 2, 45);
        Due.due("FORCE 24 by LEAN 1", x.brace(), Due.NONE);
        x.alter(0, 2, 41);
        Due.due("it goes no further", x.brace(), 0);
        // by whatever STIFF there is
        x = Due.told("chimney 1 44 0;foot 40;bears 1;");
        for (int v = 0; v <= 20; v++) {
            x.stiff(v);
            Due.due("brace, STIFF " + v, x.brace(), 15);
            Due.due("rule(8)", x.rule(8), v);
        }
    }

    // 21: "(now, too)", "NONE: none"
    private static void braceCountsNow() {
        SpireLean x = Due.told("bears 3;");
        x.bend(47);
        Due.due("LEAN as much as BEARS", x.brace(), 0);
        x.bend(48);
        Due.due("FALLEN now", x.brace(), Due.NONE);
    }

    // 21: "behind any of 60 YEARS"
    private static void braceCountsBehind60() {
        Due.due("behind 60", movesBehind(60).brace(), Due.NONE);
        Due.due("behind 61", movesBehind(61).brace(), 0);
    }

    // 22: "BAD"
    private static void lureBounds() {
        Bounds.outside("lure of none", States::fresh, (x, v) -> x.lure(v, 44), 0, -1);
        Bounds.of("lure(v, 85)", States::some, (x, v) -> x.lure(v, 85), 0, 1, 2, 1);
        Bounds.of("lure(v, 64)", States::full, (x, v) -> x.lure(v, 64), 0, 1, 4, 1);
        Bounds.outside("lure(0, v)", States::some, (x, v) -> x.lure(0, v), 0, 99);
        SpireLean x = Due.told("dock 20 0 0;foot 99;stiff 0;bears 18;");
        Due.due("lure(0, 0)", x.lure(0, 0), 1);
        Due.due("lure(0, 99)", x.lure(0, 99), 1);
    }

    // 22: "The least PULL"
    private static void lureIs1To20() {
        // of FORCES alike the first HAS it: the second must have 1 more
        SpireLean x = Due.told("chimney 1 34 0;chimney 5 54 0;stiff 0;");
        int[] pulls = {1, 2, 18, 19, 20};
        int[] due = {2, 3, 19, 20, Due.NONE};
        for (int i = 0; i < pulls.length; i++) {
            x.alter(0, 1, pulls[i]);
            Due.due("lure(1, 54) against " + pulls[i], x.lure(1, 54), due[i]);
            Due.due("draw(1, 1)", x.draw(1, 1), 5);
        }
        Due.due("lure(0, 34)", x.lure(0, 34), 5);
        x.alter(1, 1, 1);
        Due.due("lure(0, 34) against 1", x.lure(0, 34), 1);
        Due.due("now", x.lure(0, 44), 1);
        Due.due("by none", x.lure(0, 99), Due.NONE);
    }

    // 22: "(in 60 YEARS)"
    private static void lureIn60Years() {
        Due.due("behind 60", movesBehind(60).lure(0, 45), 1);
        Due.due("behind 61", movesBehind(61).lure(0, 45), Due.NONE);
        SpireLean x = Due.told("dock 20 49 0;bears 2;");
        Due.due("as it FALLS", x.lure(0, 47), 1);
        Due.due("when it is FALLEN", x.lure(0, 48), Due.NONE);
    }

    // 23: "BAD"
    private static void siteBounds() {
        Bounds.of("site(v, ..)", States::fresh, (x, v) -> x.site(v, 1, 44, 0), 0, 0, 3, 0);
        Bounds.of("site(.., v, ..)", States::fresh, (x, v) -> x.site(0, v, 44, 0), 1, 0, 20, 0);
        Bounds.of("site(.., v, ..)", States::fresh, (x, v) -> x.site(0, 20, v, 1), 0, 8, 99, 10);
        Bounds.of("site(.., v)", States::fresh, (x, v) -> x.site(0, 20, 45, v), 0, 9, 1, 1);
        Bounds.outsideInAll("site(v, ..)", (x, v) -> x.site(v, 1, 44, 0), 0, 3);
        Bounds.outsideInAll("site(.., v, ..)", (x, v) -> x.site(0, v, 44, 0), 1, 20);
        Bounds.outsideInAll("site(.., v, ..)", (x, v) -> x.site(0, 1, v, 0), 0, 99);
        Bounds.outsideInAll("site(.., v)", (x, v) -> x.site(0, 1, 44, v), 0, 1);
        // 99 is 10 from THE FOOT: it comes there as it falls, but not where it falls sooner
        SpireLean x = Due.told("bears 8;stiff 0;");
        Due.due("site to 99", x.site(0, 20, 99, 1), Due.NONE);
    }

    // 23: "FULL"
    private static void siteIsFull() {
        SpireLean x = States.full();
        Due.due("5 DRAWS", x.site(0, 1, 64, 0), Due.FULL);
        Due.due("5 DRAWS", x.site(0, 1, 64, 1), Due.FULL);
        x.raze(4);
        Due.due("4 DRAWS", x.site(0, 1, 64, 1), 0);
        Due.due("it is not put", x.rule(0), 4);
        Bounds.refused("site, FULL", States::full, y -> y.site(0, 1, 64, 0), Due.FULL);
    }

    // 23: "The CELL at which a DRAW more is to be put": the first and the last there are
    private static void siteIsAnyCell() {
        SpireLean x = Due.told("foot 98;");
        Due.due("from 98 to 99", x.site(0, 1, 99, 0), 99);
        Due.due("from 98 to 99", x.site(0, 1, 99, 1), 1);
        x = Due.told("foot 1;");
        Due.due("from 1 to 0", x.site(0, 1, 0, 0), 0);
        Due.due("from 1 to 0", x.site(0, 1, 0, 1), 1);
        // a CELL 100, if there were one, would do
        x = Due.told("dock 15 99 2;foot 71;stiff 11;bears 12;");
        Due.due("no CELL behind 99", x.site(0, 6, 95, 0), Due.NONE);
        x = Due.told("chapel 10 49 55;foot 71;stiff 10;bears 12;");
        Due.due("no CELL behind 99", x.site(1, 2, 84, 0), Due.NONE);
        x = Due.told("foot 97;");
        Due.due("from 97 to 99", x.site(3, 20, 99, 0), 99);
        Due.due("from 97 to 99", x.site(3, 20, 99, 1), 2);
    }

    // 23: "of several the first (what 0)"
    private static void siteFirstOfSeveral() {
        SpireLean x = new SpireLean();
        // x by 1 to 4 less, y by no more than that: 0 is the first of them
        Due.due("towards less x", x.site(3, 20, 34, 0), 0);
        // y less by more than x differs: 10 is the first
        Due.due("towards less y", x.site(3, 20, 43, 0), 10);
        Due.due("towards more y", x.site(3, 20, 45, 0), 9);
        Due.due("towards more x", x.site(3, 20, 54, 0), 53);
        Due.due("it is there", x.site(3, 20, 44, 0), 0);
    }

    // 23: "soonest (in 60 YEARS) ... behind how many (1)", "NONE: none"
    private static void siteBehind0To60() {
        SpireLean x = Due.told("dock 20 74 57;stiff 20;bears 18;");
        Due.due("now", x.site(1, 1, 44, 1), 0);
        x.alter(0, 3, 59);
        Due.due("behind 60", x.site(1, 1, 74, 1), 60);
        Due.due("behind 60", x.site(1, 1, 74, 0), 64);
        x.alter(0, 3, 60);
        Due.due("behind 61", x.site(1, 1, 74, 1), Due.NONE);
        Due.due("behind 61", x.site(1, 1, 74, 0), Due.NONE);
        Bounds.refused("site, NONE", States::fresh, y -> y.site(0, 1, 99, 0), Due.NONE);
    }

    // 23: "(of a KIND, a PULL, SINCE YEAR 0)"
    private static void siteIsSinceYear0() {
        SpireLean x = Due.told("dock 1 1 60;");
        x.raze(0);
        Due.due("where one was razed", x.site(0, 1, 45, 1), 1);
        // the first HAS it of FORCES alike: chimney 3 has 180 by 2, as 360 by 4; chimney 4 has more
        x = Due.told("chimney 6 14 0;stiff 0;");
        Due.due("PULL 3", x.site(0, 3, 54, 1), Due.NONE);
        Due.due("PULL 4", x.site(0, 4, 54, 1), 1);
        Due.due("a market of PULL 6", x.site(1, 6, 54, 1), Due.NONE);
        Due.due("a chapel of PULL 6", x.site(2, 6, 54, 1), 1);
        Due.due("a dock of PULL 2", x.site(3, 2, 54, 1), Due.NONE);
        Due.due("a dock of PULL 3", x.site(3, 3, 54, 1), 1);
    }

    // 24: "BAD"
    private static void hushBounds() {
        Bounds.outsideInAll("hush", (x, v) -> x.hush(v), 0, 1);
        SpireLean x = Due.told("dock 20 49 0;");
        Due.due("hush(0)", x.hush(0), 0);
        Due.due("hush(1)", x.hush(1), 0);
    }

    // 24: "NONE: none"
    private static void hushOfNoneAndAll() {
        Bounds.refused("hush of none", States::fresh, x -> x.hush(0), Due.NONE);
        Due.due("hush of none", new SpireLean().hush(1), Due.NONE);
        SpireLean x = Due.told("chimney 1 44 0;chimney 1 44 0;chimney 1 44 0;chimney 1 44 0;dock 20 49 0;");
        Due.due("the last of five", x.hush(0), 4);
        Due.due("the last of five", x.hush(1), 0);
        x = Due.told("dock 20 49 0;chimney 1 44 0;chimney 1 44 0;chimney 1 44 0;chimney 1 44 0;");
        Due.due("the first of five", x.hush(0), 0);
    }

    // 24: "is least, less than as it is"
    private static void hushLessThanAsItIs() {
        SpireLean x = Due.told("dock 20 49 0;dock 20 49 0;");
        Due.due("as much", x.hush(0), Due.NONE);
        Due.due("as much", x.hush(1), Due.NONE);
        x.alter(1, 2, 48);
        // by STRENGTH alike the nearer one has it: LEAN 4; without it 5
        Due.due("as it is", x.runs(60, 2), 4);
        Due.due("as much or more", x.hush(0), Due.NONE);
        x.alter(1, 1, 1);
        Due.due("as it is", x.runs(60, 2), 5);
        Due.due("1 less", x.hush(0), 0);
        Due.due("1 less", x.hush(1), 4);
        // "(now, too)"
        x.bend(49);
        Due.due("now it is as much", x.hush(0), Due.NONE);
        x = Due.told("chimney 1 44 0;");
        Due.due("LEAN 0 can not be less", x.hush(0), Due.NONE);
    }

    // 24: "of several the first (what 0)"
    private static void hushFirstOfSeveral() {
        SpireLean x = Due.told("chimney 1 13 0;chimney 1 67 0;chimney 3 99 0;stiff 7;bears 18;");
        Due.due("as it is", x.runs(60, 2), 5);
        Due.due("the second or the third", x.hush(0), 1);
        Due.due("the second or the third", x.hush(1), 4);
    }

    // 24: "(it has FORCE 0 in all YEARS)", "behind any of 60 YEARS"
    private static void hushInAllYears() {
        Due.due("behind 60", movesBehind(60).hush(0), 0);
        Due.due("behind 60", movesBehind(60).hush(1), 0);
        Due.due("behind 61", movesBehind(61).hush(0), Due.NONE);
        SpireLean x = Due.told("dock 20 49 60;");
        x.years(30);
        x.years(30);
        Due.due("in YEAR 60", x.hush(1), 0);
        Due.due("it is not silent now", x.rule(6), 0);
        x = Due.told("dock 20 49 60;");
        States.toLastYear(x);
        x.bend(44);
        Due.due("in YEAR 999", x.hush(1), 0);
        Due.due("SINCE", x.draw(0, 3), 60);
    }

    // 25: "BAD"
    private static void swapBounds() {
        Bounds.outsideInAll("swap", (x, v) -> x.swap(v), 0, 1);
        SpireLean x = Due.told("dock 20 49 0;chimney 1 45 0;");
        Due.due("swap(0)", x.swap(0), 1);
        Due.due("swap(1)", x.swap(1), 1);
    }

    // 25: "NONE: none", two of none, of one, of five
    private static void swapOfNoneAndAll() {
        Bounds.refused("swap of none", States::fresh, x -> x.swap(0), Due.NONE);
        SpireLean x = Due.told("dock 20 49 0;");
        Due.due("swap of one", x.swap(0), Due.NONE);
        Due.due("swap of one", x.swap(1), Due.NONE);
        x = Due.told("chimney 1 49 0;chimney 1 49 0;chimney 1 49 0;dock 20 49 0;chimney 1 44 0;");
        Due.due("the last two of five", x.swap(0), 34);
        Due.due("the last two of five", x.swap(1), 0);
        x = Due.told("chimney 1 44 0;dock 20 49 0;chimney 1 49 0;chimney 1 49 0;chimney 1 49 0;");
        Due.due("the first two of five", x.swap(0), 1);
        x = Due.told("chimney 1 44 0;chimney 1 49 0;chimney 1 49 0;chimney 1 49 0;dock 20 49 0;");
        Due.due("the first and the last", x.swap(0), 4);
    }

    // 25: "is least, less than as it is", "(now, too)", "behind any of 60 YEARS"
    private static void swapLessThanAsItIs() {
        SpireLean x = Due.told("dock 20 49 0;chimney 1 49 0;");
        Due.due("at one CELL", x.swap(0), Due.NONE);
        Due.due("at one CELL", x.swap(1), Due.NONE);
        x = Due.told("dock 20 49 0;chimney 1 39 0;");
        Due.due("as it is", x.runs(60, 2), 5);
        Due.due("more", x.swap(0), Due.NONE);
        x.alter(1, 2, 94);
        Due.due("as much", x.swap(0), Due.NONE);
        x.alter(1, 2, 48);
        Due.due("1 less", x.swap(0), 1);
        Due.due("1 less", x.swap(1), 4);
        x.bend(49);
        Due.due("now it is as much", x.swap(0), Due.NONE);
        x = Due.told("dock 20 45 59;chimney 1 44 60;");
        Due.due("behind 60", x.swap(0), 1);
        Due.due("behind 60", x.swap(1), 0);
        x.alter(0, 3, 60);
        Due.due("behind 61", x.swap(0), Due.NONE);
    }

    // 25: "of several the least (what 0)"
    private static void swapLeastOfSeveral() {
        SpireLean x = Due.told("chimney 1 44 0;dock 20 49 0;chimney 1 44 0;");
        Due.due("1 or 12", x.swap(0), 1);
        x = Due.told("dock 20 49 0;chimney 1 44 0;chimney 1 44 0;");
        Due.due("1 or 2", x.swap(0), 1);
        x = Due.told("chimney 1 49 0;chimney 1 44 0;dock 20 49 0;chimney 1 44 0;");
        Due.due("12 or 23", x.swap(0), 12);
        // a later one that is less
        x = Due.told("chimney 1 45 0;dock 20 49 0;chimney 1 44 0;");
        Due.due("1 is less, 12 least", x.swap(0), 12);
        Due.due("1 is less, 12 least", x.swap(1), 0);
    }

    // 25: "change CELLS": SINCE, PULL, KIND stay
    private static void swapChangesCellsAlone() {
        SpireLean x = Due.told("dock 20 49 3;chimney 1 44 60;");
        Due.due("swap(1)", x.swap(1), 0);
        Due.due("draw(0, 2)", x.draw(0, 2), 49);
        Due.due("draw(1, 2)", x.draw(1, 2), 44);
        // if SINCE changed with them, the dock would be silent for 60 YEARS
        x = Due.told("dock 20 49 0;chimney 1 47 60;stiff 0;");
        Due.due("swap(1)", x.swap(1), 3);
    }

    // 26: "BAD"
    private static void kindBounds() {
        Bounds.outside("kind of none", States::fresh, (x, v) -> x.kind(v, 0, 0), 0, -1);
        Bounds.of("kind(v, ..)", States::some, (x, v) -> x.kind(v, 0, 1), 0, 1, 2, 7);
        Bounds.of("kind(v, ..)", States::full, (x, v) -> x.kind(v, 0, 1), 0, 2, 4, 8);
        Bounds.of("kind(.., v, ..)", States::some, (x, v) -> x.kind(0, v, 1), 0, 1, 60, 0);
        Bounds.of("kind(.., v)", States::some, (x, v) -> x.kind(0, 60, v), 0, 0, 1, 0);
    }

    // 26: "The KIND of a DRAW by which THE POINT is nearest to it"
    private static void kindIs0To3() {
        SpireLean x = Due.told("chapel 9 49 0;stiff 0;");
        Due.due("0, as all of them", x.kind(0, 9, 0), 0);
        // it falls on its way by more
        x = Due.told("dock 2 16 0;market 8 71 33;foot 98;stiff 9;bears 4;");
        Due.due("1", x.kind(1, 54, 0), 1);
        // STRENGTH 1, 1, 2, 3 of PULL 1: at 24 BACK is 20, as 60 by 3
        x = Due.told("dock 1 4 0;stiff 10;bears 8;");
        Due.due("2", x.kind(0, 6, 0), 2);
        Due.due("2", x.kind(0, 6, 1), 0);
        // STRENGTH 2, 1, 2, 3 of PULL 2: at 24 BACK is 40, as 120 by 3
        x = Due.told("chimney 2 4 0;stiff 20;bears 8;");
        Due.due("3", x.kind(0, 6, 0), 3);
        Due.due("draw(0, 0)", x.draw(0, 0), 0);
    }

    // 26: "of several the first (what 0), how FAR (1)"
    private static void kindFirstOfSeveral() {
        SpireLean x = Due.told("dock 1 4 0;stiff 10;bears 8;");
        // behind 3 YEARS: 34 by a chimney and a market, 14 by a chapel and a dock
        Due.due("of the last two the first", x.kind(0, 3, 0), 2);
        Due.due("of the last two the first", x.kind(0, 3, 1), 1);
        Due.due("of four the first", x.kind(0, 2, 0), 0);
        Due.due("of four the first", x.kind(0, 2, 1), 2);
    }

    // 26: "behind n YEARS (0 to 60)"
    private static void kindBehind0To60() {
        Due.due("now", movesBehind(60).kind(0, 0, 1), 1);
        Due.due("behind 59", movesBehind(60).kind(0, 59, 1), 1);
        Due.due("behind 60", movesBehind(60).kind(0, 60, 1), 0);
        Due.due("behind 60, SINCE 60", movesBehind(61).kind(0, 60, 1), 1);
        SpireLean x = Due.told("dock 20 99 0;foot 0;");
        Due.due("the furthest", x.kind(0, 0, 1), 18);
        Due.due("the furthest", x.kind(0, 0, 0), 0);
    }
}
