/** The bounds that the document's "Terms" name, a sentence each. */
public final class TermsBoundsTest {
    public static void main(String[] args) {
        atFirst();
        cellsHaveXAndY();
        rowsDoNotWrapAround();
        stiffIs0To20();
        bearsIs0To18();
        draws5AtMost();
        kindIs0To3();
        pullIs1To20();
        sinceIs0To60();
        itDrawsInThatYearAndAllBehindIt();
        halfIsRoundedUp();
        forceIsRoundedDown();
        forceIs0IfItDoesNotDrawYet();
        backIsStiffTimesLean();
        fallenIfLeanIsMoreThanBears();
        nothingMovesOfTheFallen();
        ofSeveralTheFirstHasIt();
        ifThatForceIsMoreThanBack();
        inXIfItDiffersByAsMuch();
        staysIfItIsThere();
        towardsTheFootIfLeanIsAbove0();
        yearIsOneMoreFallenOrNot();
        fractionsAreInLowestTerms();
        zeroIs0By1();
        Due.finish();
    }

    // "THE FOOT, THE POINT: a CELL each (44 at first)", "STIFF (2 at first), BEARS (9 at first)", "YEAR (0 at first)"
    private static void atFirst() {
        int[] rules = {0, 0, 44, 44, 0, 0, Due.NONE, 0, 2, 9};
        for (int what = 0; what < rules.length; what++) {
            Due.due("at first: rule(" + what + ")", new SpireLean().rule(what), rules[what]);
            Due.due("told nothing: rule(" + what + ")", Due.told("").rule(what), rules[what]);
        }
    }

    private static int far(int a, int b) {
        SpireLean x = new SpireLean();
        x.put(0, 1, a);
        x.bend(b);
        return x.draw(0, 6);
    }

    // "CELLS, each a number 0 to 99: 10 times x and y", "FAR of two CELLS"
    private static void cellsHaveXAndY() {
        int[][] rows = {{0, 0, 0}, {99, 99, 0}, {0, 99, 18}, {99, 0, 18}, {9, 90, 18}, {90, 9, 18}, {0, 9, 9},
            {0, 90, 9}, {9, 99, 9}, {90, 99, 9}, {9, 10, 10}, {19, 20, 10}, {0, 1, 1}, {0, 10, 1}, {0, 11, 2},
            {12, 21, 2}, {89, 90, 10}, {89, 99, 1}, {89, 98, 2}, {44, 44, 0}};
        for (int[] row : rows) {
            Due.due("FAR of " + row[0] + " and " + row[1], far(row[0], row[1]), row[2]);
            Due.due("FAR of " + row[1] + " and " + row[0], far(row[1], row[0]), row[2]);
        }
    }

    private static int step(int point, int goal) {
        SpireLean x = new SpireLean();
        x.put(3, 20, goal);
        x.stiff(0);
        x.bears(18);
        x.bend(point);
        return x.years(1);
    }

    // the CELL behind 9 is not beside it
    private static void rowsDoNotWrapAround() {
        int[][] rows = {{9, 10, 8}, {10, 9, 11}, {89, 90, 88}, {90, 89, 91}, {0, 99, 10}, {99, 0, 89}, {9, 90, 19},
            {90, 9, 80}, {0, 9, 1}, {9, 0, 8}, {0, 90, 10}, {90, 0, 80}, {90, 99, 91}, {99, 90, 98}, {9, 99, 19},
            {99, 9, 89}};
        for (int[] row : rows) {
            Due.due("a YEAR from " + row[0] + " to " + row[1], step(row[0], row[1]), row[2]);
        }
    }

    // "STIFF (0 to 20"
    private static void stiffIs0To20() {
        Bounds.of("stiff()", States::fresh, (x, v) -> x.stiff(v), 0, 2, 20, 2);
        Due.due("stiff 0", Due.told("stiff 0;").rule(8), 0);
        Due.due("stiff 20", Due.told("stiff 20;").rule(8), 20);
        Due.faulty("stiff 21;", 6, 3);
    }

    // "BEARS (0 to 18"
    private static void bearsIs0To18() {
        Bounds.of("bears()", States::fresh, (x, v) -> x.bears(v), 0, 9, 18, 9);
        Due.due("bears 0", Due.told("bears 0;").rule(9), 0);
        Due.due("bears 18", Due.told("bears 18;").rule(9), 18);
        Due.faulty("bears 19;", 6, 3);
    }

    // "DRAWS (5 at most), by order"
    private static void draws5AtMost() {
        SpireLean x = new SpireLean();
        for (int n = 1; n <= 5; n++) {
            Due.due("put", x.put(n % 4, n, 10 * n), n);
        }
        Due.due("put, the 6th", x.put(0, 1, 1), Due.FULL);
        for (int i = 0; i < 5; i++) {
            Due.due("draw(" + i + ", 2)", x.draw(i, 2), 10 * i + 10);
        }
        Due.due("draw(5, 2)", x.draw(5, 2), Due.BAD);
    }

    // "each of a KIND (0 chimney, 1 market, 2 chapel, 3 dock)"
    private static void kindIs0To3() {
        String[] names = {"chimney", "market", "chapel", "dock"};
        for (int kind = 0; kind < 4; kind++) {
            Due.due("KIND of a " + names[kind], Due.told(names[kind] + " 1 1 1;").draw(0, 0), kind);
        }
        Bounds.of("put of a KIND", States::fresh, (x, v) -> x.put(v, 1, 1), 0, 1, 3, 1);
        Bounds.of("alter of a KIND", States::some, (x, v) -> x.alter(1, 0, v), 0, 1, 3, 1);
    }

    // "with a PULL (1 to 20)"
    private static void pullIs1To20() {
        Bounds.of("put of a PULL", States::fresh, (x, v) -> x.put(0, v, 1), 1, 1, 20, 1);
        Bounds.of("alter of a PULL", States::some, (x, v) -> x.alter(1, 1, v), 1, 9, 20, 9);
        Due.due("PULL 1", Due.told("dock 1 1 1;").draw(0, 1), 1);
        Due.due("PULL 20", Due.told("dock 20 1 1;").draw(0, 1), 20);
        Due.faulty("dock 0 1 1;", 5, 3);
        Due.faulty("dock 21 1 1;", 5, 3);
    }

    // "SINCE a YEAR (0 to 60"
    private static void sinceIs0To60() {
        Bounds.of("alter of SINCE", States::some, (x, v) -> x.alter(1, 3, v), 0, 5, 60, 5);
        Due.due("SINCE 0", Due.told("dock 1 1 0;").draw(0, 3), 0);
        Due.due("SINCE 60", Due.told("dock 1 1 60;").draw(0, 3), 60);
        Due.faulty("dock 1 1 61;", 9, 3);
    }

    // "it draws in that YEAR and all behind it"
    private static void itDrawsInThatYearAndAllBehindIt() {
        SpireLean x = Due.told("dock 20 49 60;stiff 0;");
        x.years(30);
        x.years(29);
        Due.due("YEAR 59: FORCE", x.draw(0, 5), 0);
        Due.due("YEAR 59: DRAWS that draw", x.count(5), 0);
        Due.due("YEAR 59: HAS it", x.rule(6), Due.NONE);
        Due.due("YEAR 59: THE POINT behind it", x.years(1), 44);
        Due.due("YEAR 60: FORCE", x.draw(0, 5), 300);
        Due.due("YEAR 60: DRAWS that draw", x.count(5), 1);
        Due.due("YEAR 60: HAS it", x.rule(6), 0);
        Due.due("YEAR 60: THE POINT behind it", x.years(1), 45);
        for (int i = 0; i < 31; i++) {
            x.years(30);
        }
        x.years(8);
        Due.due("rule(1)", x.rule(1), 999);
        Due.due("YEAR 999: FORCE", x.draw(0, 5), 1800);
        Due.due("YEAR 999: DRAWS that draw", x.count(5), 1);
        x = Due.told("dock 20 49 0;");
        Due.due("SINCE 0 in YEAR 0", x.draw(0, 5), 300);
    }

    // "market half of that of a chimney (up); chapel 1 more than a market; dock three times a market"
    private static void halfIsRoundedUp() {
        int[][] rows = {{1, 1, 1, 2, 3}, {2, 2, 1, 2, 3}, {3, 3, 2, 3, 6}, {4, 4, 2, 3, 6}, {19, 19, 10, 11, 30},
            {20, 20, 10, 11, 30}};
        for (int[] row : rows) {
            for (int kind = 0; kind < 4; kind++) {
                SpireLean x = new SpireLean();
                x.put(kind, row[0], 0);
                Due.due("STRENGTH by " + kind + ", PULL " + row[0], x.draw(0, 4), row[1 + kind]);
            }
        }
    }

    private static int force(int kind, int pull, int at, int point) {
        SpireLean x = new SpireLean();
        x.put(kind, pull, at);
        x.bend(point);
        return x.draw(0, 5);
    }

    // "60 times its STRENGTH by 1 more than how FAR it is from THE POINT (down)"
    private static void forceIsRoundedDown() {
        Due.due("the greatest FORCE", force(3, 20, 50, 50), 1800);
        Due.due("the least FORCE: 60 by 19 is 3 and 3 more", force(0, 1, 0, 99), 3);
        Due.due("60 by 18 is 3 and 6 more", force(0, 1, 0, 98), 3);
        Due.due("60 by 16 is 3 and 12 more", force(0, 1, 0, 96), 3);
        Due.due("60 by 15", force(0, 1, 0, 95), 4);
        Due.due("60 by 7 is 8 and 4 more", force(0, 1, 0, 33), 8);
        Due.due("180 by 7 is 25 and 5 more", force(3, 1, 0, 33), 25);
        Due.due("1800 by 19 is 94 and 14 more", force(3, 20, 9, 90), 94);
        Due.due("60 by 1", force(1, 1, 7, 7), 60);
    }

    // "0, if it does not draw yet"
    private static void forceIs0IfItDoesNotDrawYet() {
        SpireLean x = Due.told("dock 20 44 1;");
        Due.due("FORCE ahead of its YEAR", x.draw(0, 5), 0);
        Due.due("STRENGTH ahead of its YEAR", x.draw(0, 4), 30);
        Due.due("FAR ahead of its YEAR", x.draw(0, 6), 0);
        x.years(1);
        Due.due("FORCE in its YEAR", x.draw(0, 5), 1800);
    }

    // "BACK: STIFF times LEAN"
    private static void backIsStiffTimesLean() {
        SpireLean x = Due.told("foot 0;stiff 20;bears 18;");
        Due.due("BACK by LEAN 0", x.rule(7), 0);
        x.bend(1);
        Due.due("BACK by LEAN 1", x.rule(7), 20);
        x.bend(99);
        Due.due("BACK by LEAN 18", x.rule(7), 360);
        x.stiff(1);
        Due.due("BACK by STIFF 1", x.rule(7), 18);
        x.stiff(0);
        Due.due("BACK by STIFF 0", x.rule(7), 0);
    }

    // "if LEAN is more than BEARS, it is FALLEN"
    private static void fallenIfLeanIsMoreThanBears() {
        SpireLean x = Due.told("foot 0;");
        int[][] rows = {{0, 0, 0}, {0, 1, 1}, {1, 1, 0}, {1, 10, 0}, {1, 11, 1}, {1, 2, 1}, {9, 9, 0}, {9, 19, 1},
            {17, 98, 0}, {17, 99, 1}, {18, 99, 0}};
        for (int[] row : rows) {
            x.bears(row[0]);
            x.bend(row[1]);
            Due.due("BEARS " + row[0] + ", THE POINT " + row[1], x.rule(5), row[2]);
        }
    }

    // "it is FALLEN, nothing moves"
    private static void nothingMovesOfTheFallen() {
        SpireLean x = Due.told("dock 20 49 0;stiff 0;bears 2;");
        x.bend(47);
        Due.due("FALLEN, with a draw", x.years(1), 47);
        Due.due("which HAS it", x.rule(6), Due.NONE);
        x.raze(0);
        Due.due("FALLEN, with none: not back to THE FOOT", x.years(30), 47);
        x.bears(3);
        Due.due("no more FALLEN", x.years(1), 46);
    }

    // "the DRAW of the greatest FORCE (of several the first) HAS it"
    private static void ofSeveralTheFirstHasIt() {
        SpireLean x = Due.told("chimney 1 4 0;chimney 7 43 0;chimney 7 45 0;chimney 7 34 0;chimney 7 54 0;");
        Due.due("of four the first", x.rule(6), 1);
        x.alter(1, 1, 6);
        Due.due("of three the first", x.rule(6), 2);
        x.alter(4, 1, 8);
        Due.due("the greatest is the last", x.rule(6), 4);
        x.alter(0, 2, 44);
        x.alter(0, 1, 4);
        Due.due("as great as the last", x.draw(0, 5), x.draw(4, 5));
        Due.due("of two the first", x.rule(6), 0);
    }

    // "HAS it, if that FORCE is more than BACK"
    private static void ifThatForceIsMoreThanBack() {
        // FORCE 60 by 3 is 20, LEAN is 2
        SpireLean x = Due.told("chimney 1 48 0;bears 18;stiff 10;");
        x.bend(46);
        Due.due("FORCE", x.draw(0, 5), 20);
        Due.due("BACK, as much", x.rule(7), 20);
        Due.due("HAS it", x.rule(6), Due.NONE);
        Due.due("it goes back", x.runs(1, 0), 45);
        x.stiff(9);
        Due.due("BACK, less", x.rule(7), 18);
        Due.due("HAS it", x.rule(6), 0);
        Due.due("it goes on", x.runs(1, 0), 47);
        x = Due.told("chimney 1 48 1;stiff 0;");
        Due.due("FORCE 0 is not more than BACK 0", x.rule(6), Due.NONE);
        x = Due.told("chimney 1 99 0;stiff 20;");
        Due.due("FORCE 5 is more than BACK 0", x.draw(0, 5), 5);
        Due.due("HAS it", x.rule(6), 0);
    }

    // "in x, if x differs by as much as y or more, else in y"
    private static void inXIfItDiffersByAsMuch() {
        int[][] rows = {{44, 66, 54}, {44, 22, 34}, {44, 26, 34}, {44, 62, 54}, {44, 67, 45}, {44, 76, 54},
            {44, 27, 45}, {44, 21, 43}, {44, 12, 34}, {44, 61, 43}, {44, 72, 54}, {44, 45, 45}, {44, 54, 54}};
        for (int[] row : rows) {
            Due.due("a YEAR from " + row[0] + " to " + row[1], step(row[0], row[1]), row[2]);
        }
    }

    // "(stays, if it is there)"
    private static void staysIfItIsThere() {
        SpireLean x = Due.told("dock 20 47 0;stiff 20;");
        x.bend(47);
        Due.due("it is there", x.years(1), 47);
        Due.due("HAS it", x.rule(6), 0);
        Due.due("no YEAR moves it", x.runs(60, 3), 0);
        Due.due("at 0", step(0, 0), 0);
        Due.due("at 99", step(99, 99), 99);
    }

    // "If none HAS it and LEAN is above 0, THE POINT goes one CELL towards THE FOOT, likewise"
    private static void towardsTheFootIfLeanIsAbove0() {
        int[][] rows = {{44, 44}, {45, 44}, {54, 44}, {55, 45}, {33, 43}, {35, 45}, {46, 45}, {64, 54}, {56, 55},
            {65, 55}, {99, 89}, {0, 10}, {9, 8}, {90, 80}};
        for (int[] row : rows) {
            SpireLean x = new SpireLean();
            x.bears(18);
            x.bend(row[0]);
            Due.due("back from " + row[0], x.years(1), row[1]);
        }
    }

    // "YEAR is 1 more (FALLEN or not)"
    private static void yearIsOneMoreFallenOrNot() {
        SpireLean x = Due.told("dock 20 44 0;bears 3;");
        x.years(1);
        Due.due("it stays", x.rule(1), 1);
        x.bend(47);
        x.years(1);
        Due.due("it moves", x.rule(1), 2);
        x.bend(99);
        x.years(1);
        Due.due("it is FALLEN", x.rule(1), 3);
        x.years(0);
        Due.due("no YEARS", x.rule(1), 3);
    }

    // "Fractions are in lowest terms, the denominator above 0"
    private static void fractionsAreInLowestTerms() {
        SpireLean x = Due.told("dock 20 48 20;stiff 0;");
        long[][] rows = {{20, 0, 1}, {21, 1, 21}, {24, 1, 6}, {25, 1, 5}, {30, 1, 3}, {40, 1, 2}, {60, 2, 3}};
        for (long[] row : rows) {
            Due.due("share in " + row[0], x.share(0, (int) row[0], 0), row[1]);
            Due.due("share in " + row[0], x.share(0, (int) row[0], 1), row[2]);
        }
        x.alter(0, 3, 0);
        Due.due("all of it", x.share(0, 60, 0), 1);
        Due.due("all of it", x.share(0, 60, 1), 1);
        Due.due("5 out of ten", x.luck(5, 45, 1, 0), 1);
        Due.due("5 out of ten", x.luck(5, 45, 1, 1), 2);
        Due.due("mean of 4 by 0 calm", x.mean(0, 4, 0), 4);
        Due.due("mean of 4 by 0 calm", x.mean(0, 4, 1), 1);
    }

    // "(0 is 0 by 1)"
    private static void zeroIs0By1() {
        SpireLean x = Due.told("dock 20 48 0;chimney 1 0 0;stiff 0;");
        for (int n = 1; n <= 60; n++) {
            Due.due("share of none in " + n, x.share(1, n, 0), 0);
            Due.due("share of none in " + n, x.share(1, n, 1), 1);
        }
        for (int n = 0; n <= 8; n++) {
            Due.due("luck of a CELL that is not reached", x.luck(5, 0, n, 0), 0);
            Due.due("luck of a CELL that is not reached", x.luck(5, 0, n, 1), 1);
            Due.due("mean of no LEAN", x.mean(10, n, 0), 0);
            Due.due("mean of no LEAN", x.mean(10, n, 1), 1);
        }
    }
}
