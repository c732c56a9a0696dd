/** Promises 14 to 19: years, runs, falls, comes, share, turn. */
public final class YearsTest {
    public static void main(String[] args) {
        steps();
        goesBack();
        fallen();
        lastYear();
        runs();
        fallsFirst();
        comesFirst();
        shares();
        turns();
        asksChangeNothing();
        Due.finish();
    }

    // 14: in x, if x differs by as much as y or more
    private static void steps() {
        int[][] goals = {{0, 34}, {4, 34}, {84, 54}, {40, 43}, {49, 45}, {99, 54}, {89, 45}, {26, 34}, {62, 54},
            {71, 54}, {52, 43}, {44, 44}, {8, 34}, {80, 54}};
        for (int[] row : goals) {
            SpireLean x = Due.told("dock 20 " + row[0] + " 0;");
            Due.due("years(1) towards " + row[0], x.years(1), row[1]);
            Due.due("rule(1)", x.rule(1), 1);
        }
        SpireLean x = Due.told("dock 20 75 0;stiff 0;");
        int[] path = {44, 54, 64, 74, 75, 75, 75};
        for (int n = 0; n < path.length; n++) {
            Due.due("runs(" + n + ", 0)", x.runs(n, 0), path[n]);
        }
        Due.due("years(4)", x.years(4), 75);
        Due.due("rule(1)", x.rule(1), 4);
        Due.due("years(0)", x.years(0), 75);
        Due.due("rule(1)", x.rule(1), 4);
    }

    // 14: back to THE FOOT, if none HAS it
    private static void goesBack() {
        SpireLean x = Due.told("foot 33;");
        x.bend(66);
        int[] path = {56, 55, 45, 44, 34, 33, 33};
        for (int p : path) {
            Due.due("years(1)", x.years(1), p);
        }
        x.bend(39);
        Due.due("years(2)", x.years(2), 37);
        // a market that is too weak: 60 by 5 is 12, BACK is 0, then 20
        x = Due.told("market 1 48 0;stiff 20;");
        Due.due("years(1)", x.years(1), 45);
        Due.due("rule(6)", x.rule(6), Due.NONE);
        Due.due("years(1)", x.years(1), 44);
        Due.due("years(1)", x.years(1), 45);
    }

    // 14: nothing moves, but the YEAR
    private static void fallen() {
        SpireLean x = Due.told("dock 20 0 0;bears 3;stiff 0;");
        Due.due("years(3)", x.years(3), 23);
        Due.due("rule(5)", x.rule(5), 0);
        Due.due("years(3)", x.years(3), 22);
        Due.due("rule(5)", x.rule(5), 1);
        x = Due.told("dock 20 4 0;bears 2;stiff 0;");
        Due.due("years(3)", x.years(3), 14);
        Due.due("rule(5)", x.rule(5), 1);
        Due.due("years(5)", x.years(5), 14);
        Due.due("rule(1)", x.rule(1), 8);
        x.bears(3);
        Due.due("years(1)", x.years(1), 4);
    }

    // 14
    private static void lastYear() {
        SpireLean x = new SpireLean();
        Due.due("years(31)", x.years(31), Due.BAD);
        Due.due("years(-1)", x.years(-1), Due.BAD);
        for (int i = 0; i < 33; i++) {
            Due.due("years(30)", x.years(30), 44);
        }
        Due.due("rule(1)", x.rule(1), 990);
        Due.due("years(10)", x.years(10), Due.FULL);
        Due.due("years(31)", x.years(31), Due.BAD);
        Due.due("rule(1)", x.rule(1), 990);
        Due.due("years(9)", x.years(9), 44);
        Due.due("rule(1)", x.rule(1), 999);
        Due.due("years(0)", x.years(0), 44);
        Due.due("years(1)", x.years(1), Due.FULL);
        Due.due("runs(60, 0)", x.runs(60, 0), 44);
    }

    // 15
    private static void runs() {
        // the chimney has it for 3 YEARS, then a dock that begins in YEAR 3 draws it back over THE FOOT
        SpireLean x = Due.told("chimney 2 74 0;dock 20 24 3;stiff 1;");
        int[][] due = {
            {44, 0, 0, 0, 0}, {54, 1, 1, 1, 1}, {64, 2, 2, 2, 1}, {74, 3, 3, 3, 1}, {64, 2, 3, 4, 3},
            {54, 1, 3, 5, 3}, {44, 0, 3, 6, 3}, {34, 1, 3, 7, 3}, {24, 2, 3, 8, 3}, {24, 2, 3, 8, 3}};
        for (int n = 0; n < due.length; n++) {
            for (int what = 0; what < 5; what++) {
                Due.due("runs(" + n + ", " + what + ")", x.runs(n, what), due[n][what]);
            }
        }
        Due.due("runs(60, 4)", x.runs(60, 4), 3);
        Due.due("runs(-1, 0)", x.runs(-1, 0), Due.BAD);
        Due.due("runs(61, 0)", x.runs(61, 0), Due.BAD);
        Due.due("runs(1, 5)", x.runs(1, 5), Due.BAD);
        Due.due("runs(1, -1)", x.runs(1, -1), Due.BAD);
        // the greatest LEAN may be that of now
        x = Due.told("foot 0;");
        x.bend(5);
        Due.due("runs(5, 2)", x.runs(5, 2), 5);
        Due.due("runs(5, 1)", x.runs(5, 1), 0);
        Due.due("runs(60, 3)", x.runs(60, 3), 5);
        Due.due("runs(60, 4)", x.runs(60, 4), 0);
        x.bears(4);
        Due.due("FALLEN: runs(60, 3)", x.runs(60, 3), 0);
        Due.due("FALLEN: runs(60, 0)", x.runs(60, 0), 5);
    }

    // 16
    private static void fallsFirst() {
        SpireLean x = Due.told("dock 20 4 0;bears 3;stiff 0;");
        Due.due("falls()", x.falls(), 4);
        x.years(3);
        Due.due("falls()", x.falls(), 1);
        x.bears(4);
        Due.due("falls()", x.falls(), Due.NONE);
        x.bears(2);
        Due.due("falls()", x.falls(), 0);
        // behind 60 YEARS is near enough, behind 61 is not
        x = Due.told("dock 20 45 60;bears 0;");
        Due.due("falls() in the 61st", x.falls(), Due.NONE);
        x.alter(0, 3, 59);
        Due.due("falls() in the 60th", x.falls(), 60);
    }

    // 17
    private static void comesFirst() {
        SpireLean x = Due.told("chimney 2 74 0;dock 20 24 3;stiff 1;");
        int[][] due = {{44, 0}, {54, 1}, {64, 2}, {74, 3}, {34, 7}, {24, 8}, {14, Due.NONE}, {45, Due.NONE}};
        for (int[] row : due) {
            Due.due("comes(" + row[0] + ")", x.comes(row[0]), row[1]);
        }
        Due.due("comes(-1)", x.comes(-1), Due.BAD);
        Due.due("comes(100)", x.comes(100), Due.BAD);
        x = Due.told("dock 20 45 60;");
        Due.due("comes(45) in the 61st", x.comes(45), Due.NONE);
        x.alter(0, 3, 59);
        Due.due("comes(45) in the 60th", x.comes(45), 60);
    }

    // 18
    private static void shares() {
        SpireLean x = Due.told("chimney 2 74 0;dock 20 24 3;stiff 1;");
        long[][] due = {{0, 1, 1, 1}, {0, 3, 1, 1}, {0, 6, 1, 2}, {0, 9, 1, 3}, {0, 60, 1, 20}, {1, 3, 0, 1},
            {1, 4, 1, 4}, {1, 12, 3, 4}, {1, 60, 19, 20}};
        for (long[] row : due) {
            Due.due("share(" + row[0] + ", " + row[1] + ", 0)", x.share((int) row[0], (int) row[1], 0), row[2]);
            Due.due("share(" + row[0] + ", " + row[1] + ", 1)", x.share((int) row[0], (int) row[1], 1), row[3]);
        }
        Due.due("share(2, 1, 0)", x.share(2, 1, 0), Due.BAD);
        Due.due("share(-1, 1, 0)", x.share(-1, 1, 0), Due.BAD);
        Due.due("share(0, 0, 0)", x.share(0, 0, 0), Due.BAD);
        Due.due("share(0, 61, 0)", x.share(0, 61, 0), Due.BAD);
        Due.due("share(0, 1, 2)", x.share(0, 1, 2), Due.BAD);
        Due.due("share(0, 1, -1)", x.share(0, 1, -1), Due.BAD);
        // it HAS it in no YEAR in which it is FALLEN
        x = Due.told("dock 20 4 0;bears 2;stiff 0;");
        Due.due("share(0, 9, 0)", x.share(0, 9, 0), 1);
        Due.due("share(0, 9, 1)", x.share(0, 9, 1), 3);
    }

    // 19
    private static void turns() {
        SpireLean x = Due.told("chimney 2 74 0;dock 20 24 3;stiff 1;");
        Due.due("turn() to another", x.turn(), 3);
        x.years(3);
        Due.due("turn()", x.turn(), Due.NONE);
        x = Due.told("dock 20 4 0;bears 2;stiff 0;");
        Due.due("turn() to none, FALLEN", x.turn(), 3);
        x.years(3);
        Due.due("turn() of none", x.turn(), Due.NONE);
        x = Due.told("chimney 1 4 60;");
        Due.due("turn() from none", x.turn(), 60);
        x.years(1);
        Due.due("turn() from none", x.turn(), 59);
        x = Due.told("market 1 48 0;stiff 20;");
        Due.due("turn() to none, BACK", x.turn(), 1);
        Due.due("turn(), no DRAWS", new SpireLean().turn(), Due.NONE);
    }

    private static void asksChangeNothing() {
        SpireLean x = Due.told(Due.TOWN);
        x.years(2);
        x.runs(60, 0);
        x.falls();
        x.comes(0);
        x.share(0, 60, 0);
        x.turn();
        x.need();
        x.brace();
        x.lure(0, 99);
        x.site(0, 1, 99, 0);
        x.hush(0);
        x.swap(0);
        x.kind(0, 60, 0);
        x.luck(5, 0, 8, 0);
        x.mean(5, 8, 0);
        x.kinds(0);
        x.pulls(0);
        x.spots(0, 0);
        x.ask(0, 0);
        x.drift(1, 60, 0);
        int[] rules = {4, 2, 55, 64, 2, 0, 0, 8, 4, 7};
        for (int what = 0; what < rules.length; what++) {
            Due.due("asked: rule(" + what + ")", x.rule(what), rules[what]);
        }
        int[][] draws = {{0, 9, 72, 0}, {1, 15, 28, 5}, {2, 12, 60, 0}, {3, 3, 99, 20}};
        for (int i = 0; i < draws.length; i++) {
            for (int what = 0; what < 4; what++) {
                Due.due("asked: draw(" + i + ", " + what + ")", x.draw(i, what), draws[i][what]);
            }
        }
    }
}
