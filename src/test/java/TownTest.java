/** Promises 6 to 13: rule, draw, alter, stiff, bears, bend, put, raze. */
public final class TownTest {
    public static void main(String[] args) {
        rules();
        strengths();
        forces();
        holders();
        alterations();
        settings();
        putAndRaze();
        Due.finish();
    }

    // 6
    private static void rules() {
        SpireLean x = Due.told(Due.TOWN);
        x.bend(73);
        int[] rules = {4, 0, 55, 73, 4, 0, 0, 16, 4, 7};
        for (int what = 0; what < rules.length; what++) {
            Due.due("rule(" + what + ")", x.rule(what), rules[what]);
        }
        Due.due("rule(-1)", x.rule(-1), Due.BAD);
        Due.due("rule(10)", x.rule(10), Due.BAD);
        // FALLEN is more than BEARS, not as much
        x.bend(18);
        Due.due("rule(4)", x.rule(4), 7);
        Due.due("rule(5)", x.rule(5), 0);
        x.bend(8);
        Due.due("rule(4)", x.rule(4), 8);
        Due.due("rule(5)", x.rule(5), 1);
        Due.due("rule(6)", x.rule(6), Due.NONE);
        Due.due("rule(7)", x.rule(7), 32);
        x.bears(8);
        Due.due("rule(5)", x.rule(5), 0);
        Due.due("rule(6)", x.rule(6), 0);
    }

    // 7
    private static void strengths() {
        SpireLean x = Due.told("chimney 1 0 0;");
        int[][] due = {
            {1, 1, 1, 2, 3}, {2, 2, 1, 2, 3}, {7, 7, 4, 5, 12}, {8, 8, 4, 5, 12}, {19, 19, 10, 11, 30},
            {20, 20, 10, 11, 30}};
        for (int[] row : due) {
            x.alter(0, 1, row[0]);
            for (int kind = 0; kind < 4; kind++) {
                x.alter(0, 0, kind);
                Due.due("STRENGTH of kind " + kind + " by pull " + row[0], x.draw(0, 4), row[1 + kind]);
            }
        }
    }

    // 7
    private static void forces() {
        SpireLean x = Due.told("dock 20 0 0;chimney 7 44 3;market 1 99 0;");
        Due.due("draw(0, 5)", x.draw(0, 5), 200);
        Due.due("draw(0, 6)", x.draw(0, 6), 8);
        Due.due("draw(1, 5) ahead of its YEAR", x.draw(1, 5), 0);
        Due.due("draw(1, 6)", x.draw(1, 6), 0);
        Due.due("draw(2, 5)", x.draw(2, 5), 5);
        Due.due("draw(2, 6)", x.draw(2, 6), 10);
        x.alter(1, 3, 0);
        Due.due("draw(1, 5)", x.draw(1, 5), 420);
        x.bend(0);
        Due.due("draw(0, 5)", x.draw(0, 5), 1800);
        Due.due("draw(2, 5)", x.draw(2, 5), 3);
        Due.due("draw(2, 6)", x.draw(2, 6), 18);
        x.bend(90);
        Due.due("draw(2, 6)", x.draw(2, 6), 9);
        Due.due("draw(0, 6)", x.draw(0, 6), 9);
        Due.due("draw(0, -1)", x.draw(0, -1), Due.BAD);
        Due.due("draw(0, 7)", x.draw(0, 7), Due.BAD);
        Due.due("draw(-1, 0)", x.draw(-1, 0), Due.BAD);
        Due.due("draw(3, 0)", x.draw(3, 0), Due.BAD);
        // it draws in the YEAR since which it is
        x = Due.told("chimney 7 44 2;");
        x.years(1);
        Due.due("draw(0, 5) in YEAR 1", x.draw(0, 5), 0);
        x.years(1);
        Due.due("draw(0, 5) in YEAR 2", x.draw(0, 5), 420);
    }

    // 6
    private static void holders() {
        // of several the first; a force as great as BACK does not do
        SpireLean x = Due.told("chimney 1 45 0;chimney 2 47 0;chimney 1 43 0;stiff 3;");
        Due.due("draw(0, 5)", x.draw(0, 5), 30);
        Due.due("draw(1, 5)", x.draw(1, 5), 30);
        Due.due("rule(6)", x.rule(6), 0);
        x.alter(1, 1, 3);
        Due.due("rule(6)", x.rule(6), 1);
        x = Due.told("chimney 1 49 0;stiff 6;");
        x.bend(46);
        Due.due("BACK", x.rule(7), 12);
        Due.due("draw(0, 5)", x.draw(0, 5), 15);
        Due.due("rule(6)", x.rule(6), 0);
        x.bend(45);
        Due.due("rule(7)", x.rule(7), 6);
        Due.due("draw(0, 5)", x.draw(0, 5), 12);
        x.stiff(12);
        Due.due("rule(7)", x.rule(7), 12);
        Due.due("rule(6), as great as BACK", x.rule(6), Due.NONE);
        x.stiff(11);
        Due.due("rule(6)", x.rule(6), 0);
        x.alter(0, 3, 1);
        Due.due("rule(6), none draws", x.rule(6), Due.NONE);
        x = Due.told("chimney 1 99 9;stiff 0;");
        Due.due("FORCE 0 is not more than BACK 0", x.rule(6), Due.NONE);
    }

    // 8
    private static void alterations() {
        SpireLean x = Due.told("chimney 9 72 1;market 15 28 5;");
        int[] least = {0, 1, 0, 0};
        int[] most = {3, 20, 99, 60};
        int[] was = {1, 15, 28, 5};
        for (int what = 0; what < 4; what++) {
            Due.due("alter(1, " + what + ", least - 1)", x.alter(1, what, least[what] - 1), Due.BAD);
            Due.due("alter(1, " + what + ", most + 1)", x.alter(1, what, most[what] + 1), Due.BAD);
            Due.due("draw(1, " + what + ")", x.draw(1, what), was[what]);
            Due.due("alter(1, " + what + ", least)", x.alter(1, what, least[what]), was[what]);
            Due.due("draw(1, " + what + ")", x.draw(1, what), least[what]);
            Due.due("alter(1, " + what + ", most)", x.alter(1, what, most[what]), least[what]);
            Due.due("draw(1, " + what + ")", x.draw(1, what), most[what]);
        }
        int[] other = {0, 9, 72, 1};
        for (int what = 0; what < 4; what++) {
            Due.due("draw(0, " + what + ")", x.draw(0, what), other[what]);
        }
        Due.due("alter(2, 0, 0)", x.alter(2, 0, 0), Due.BAD);
        Due.due("alter(-1, 0, 0)", x.alter(-1, 0, 0), Due.BAD);
        Due.due("alter(0, 4, 1)", x.alter(0, 4, 1), Due.BAD);
        Due.due("alter(0, -1, 1)", x.alter(0, -1, 1), Due.BAD);
        Due.due("alter(0, MAX, 1)", x.alter(0, Integer.MAX_VALUE, 1), Due.BAD);
    }

    // 9, 10, 11
    private static void settings() {
        SpireLean x = new SpireLean();
        Due.due("stiff(-1)", x.stiff(-1), Due.BAD);
        Due.due("stiff(21)", x.stiff(21), Due.BAD);
        Due.due("stiff(20)", x.stiff(20), 2);
        Due.due("stiff(0)", x.stiff(0), 20);
        Due.due("stiff(0)", x.stiff(0), 0);
        Due.due("rule(8)", x.rule(8), 0);
        Due.due("bears(-1)", x.bears(-1), Due.BAD);
        Due.due("bears(19)", x.bears(19), Due.BAD);
        Due.due("bears(18)", x.bears(18), 9);
        Due.due("bears(0)", x.bears(0), 18);
        Due.due("rule(9)", x.rule(9), 0);
        Due.due("bend(-1)", x.bend(-1), Due.BAD);
        Due.due("bend(100)", x.bend(100), Due.BAD);
        Due.due("bend(99)", x.bend(99), 44);
        Due.due("bend(0)", x.bend(0), 99);
        Due.due("rule(3)", x.rule(3), 0);
        Due.due("rule(2)", x.rule(2), 44);
        Due.due("rule(4)", x.rule(4), 8);
    }

    // 12, 13
    private static void putAndRaze() {
        SpireLean x = new SpireLean();
        Due.due("raze(0)", x.raze(0), 0);
        Due.due("raze(1)", x.raze(1), Due.BAD);
        Due.due("put(0, 0, 0)", x.put(0, 0, 0), Due.BAD);
        Due.due("put(0, 21, 0)", x.put(0, 21, 0), Due.BAD);
        Due.due("put(-1, 1, 0)", x.put(-1, 1, 0), Due.BAD);
        Due.due("put(4, 1, 0)", x.put(4, 1, 0), Due.BAD);
        Due.due("put(0, 1, -1)", x.put(0, 1, -1), Due.BAD);
        Due.due("put(0, 1, 100)", x.put(0, 1, 100), Due.BAD);
        x.years(7);
        Due.due("put(3, 20, 99)", x.put(3, 20, 99), 1);
        int[] draw = {3, 20, 99, 0, 30, 163, 10};
        for (int what = 0; what < draw.length; what++) {
            Due.due("draw(0, " + what + ")", x.draw(0, what), draw[what]);
        }
        for (int n = 2; n <= 5; n++) {
            Due.due("put, the next", x.put(n - 2, n, n), n);
        }
        Due.due("put, the 6th", x.put(0, 1, 0), Due.FULL);
        Due.due("put, the 6th, wrong", x.put(0, 1, 100), Due.BAD);
        Due.due("rule(0)", x.rule(0), 5);
        Due.due("raze(6)", x.raze(6), Due.BAD);
        Due.due("raze(-1)", x.raze(-1), Due.BAD);
        Due.due("raze(5)", x.raze(5), 5);
        Due.due("raze(2)", x.raze(2), 5);
        Due.due("rule(0)", x.rule(0), 2);
        Due.due("draw(1, 1)", x.draw(1, 1), 2);
        Due.due("draw(2, 1)", x.draw(2, 1), Due.BAD);
        Due.due("put", x.put(1, 11, 12), 3);
        Due.due("draw(2, 1)", x.draw(2, 1), 11);
        // what was razed leaves nothing behind, its SINCE least of all
        x = Due.told("dock 1 1 50;");
        x.raze(0);
        Due.due("put", x.put(0, 1, 1), 1);
        Due.due("draw(0, 3)", x.draw(0, 3), 0);
    }
}
