/** Promises 36 to 42: keep, back, sheet, lay, read, torn, count. */
public final class SheetTest {
    public static void main(String[] args) {
        images();
        sheets();
        lowestBits();
        reads();
        readFaults();
        readRefused();
        readLastYear();
        counts();
        Due.finish();
    }

    // 36, 37
    private static void images() {
        SpireLean x = Due.told(Due.TOWN);
        Due.due("keep(-1)", x.keep(-1), Due.BAD);
        Due.due("keep(2)", x.keep(2), Due.BAD);
        Due.due("back(-1)", x.back(-1), Due.BAD);
        Due.due("back(2)", x.back(2), Due.BAD);
        Due.due("back(1)", x.back(1), Due.STATE);
        x.years(2);
        Due.due("keep(1)", x.keep(1), 0);
        Due.due("back(0)", x.back(0), Due.STATE);
        x.raze(1);
        x.alter(0, 0, 3);
        x.alter(0, 1, 1);
        x.alter(0, 2, 2);
        x.alter(0, 3, 4);
        x.stiff(1);
        x.bears(1);
        x.years(5);
        x.bend(7);
        Due.due("keep(0)", x.keep(0), 0);
        Due.due("count(1)", x.count(1), 2);
        Due.due("back(1)", x.back(1), 2);
        int[] rules = {4, 2, 55, 64, 2, 0, 0, 8, 4, 7};
        for (int what = 0; what < rules.length; what++) {
            Due.due("back: rule(" + what + ")", x.rule(what), rules[what]);
        }
        int[][] draws = {{0, 9, 72, 0}, {1, 15, 28, 5}, {2, 12, 60, 0}, {3, 3, 99, 20}};
        for (int i = 0; i < draws.length; i++) {
            for (int what = 0; what < 4; what++) {
                Due.due("back: draw(" + i + ", " + what + ")", x.draw(i, what), draws[i][what]);
            }
        }
        // an IMAGE is not changed by what comes behind it, and may be had again
        x.alter(3, 2, 0);
        x.years(1);
        Due.due("back(1)", x.back(1), 2);
        Due.due("draw(3, 2)", x.draw(3, 2), 99);
        Due.due("back(0)", x.back(0), 7);
        Due.due("rule(0)", x.rule(0), 1);
        Due.due("rule(3)", x.rule(3), 7);
        Due.due("draw(0, 2)", x.draw(0, 2), 2);
        Due.due("keep(1)", x.keep(1), 1);
        Due.due("back(1)", x.back(1), 7);
        // THE TAPE, SEEN, SHEETS are no part of it
        x.feed('a');
        x.see(1, 1);
        x.sheet(0, 1, 3);
        x.back(0);
        Due.due("count(2)", x.count(2), 1);
        Due.due("count(0)", x.count(0), 1);
        Due.due("count(3)", x.count(3), 3);
        // THE FOOT by an IMAGE alone: a text would take the IMAGE away
        Due.due("rule(2)", x.rule(2), 55);
    }

    // 38, 39
    private static void sheets() {
        SpireLean x = new SpireLean();
        Due.due("sheet(-1, 0, 0)", x.sheet(-1, 0, 0), Due.BAD);
        Due.due("sheet(4, 0, 0)", x.sheet(4, 0, 0), Due.BAD);
        Due.due("sheet(0, -1, 0)", x.sheet(0, -1, 0), Due.BAD);
        Due.due("sheet(0, 3, 0)", x.sheet(0, 3, 0), Due.BAD);
        Due.due("sheet(0, 0, 41)", x.sheet(0, 0, 41), Due.BAD);
        Due.due("sheet(0, 3, -1)", x.sheet(0, 3, -1), Due.BAD);
        Due.due("sheet(4, 0, -1)", x.sheet(4, 0, -1), Due.BAD);
        Due.due("sheet(0, 0, -1)", x.sheet(0, 0, -1), -14);
        Due.due("sheet(0, 0, MIN)", x.sheet(0, 0, Integer.MIN_VALUE), -14);
        Due.due("count(3)", x.count(3), Due.NONE);
        Due.due("sheet(0, 0, 0)", x.sheet(0, 0, 0), 1);
        Due.due("count(3)", x.count(3), 0);
        Due.due("lay(0, 0, 0)", x.lay(0, 0, 0), -12);
        Due.due("sheet(0, 2, 40)", x.sheet(0, 2, 40), 1);
        Due.due("count(3)", x.count(3), 40);
        Due.due("sheet(0, 0, -5)", x.sheet(0, 0, -5), -14);
        Due.due("count(3)", x.count(3), 40);
        Due.due("lay(0, 39, 1)", x.lay(0, 39, 1), 1);
        Due.due("lay(0, 40, 1)", x.lay(0, 40, 1), -12);
        Due.due("lay(0, -1, 1)", x.lay(0, -1, 1), -12);
        Due.due("lay(-1, 0, 1)", x.lay(-1, 0, 1), Due.BAD);
        Due.due("lay(4, 0, 1)", x.lay(4, 0, 1), Due.BAD);
        Due.due("lay(1, 0, 1)", x.lay(1, 0, 1), -11);
        Due.due("lay(1, -1, 1)", x.lay(1, -1, 1), -11);
        // a new row has CELLS 0
        x = Due.told("dock 1 11 0;dock 1 22 0;");
        x.sheet(3, 1, 2);
        x.lay(3, 0, 1);
        x.lay(3, 1, 77);
        x.sheet(3, 1, 2);
        Due.due("read(3, 1, 0, 1)", x.read(3, 1, 0, 1), 1);
        Due.due("draw(0, 2)", x.draw(0, 2), 0);
        Due.due("draw(1, 2)", x.draw(1, 2), 22);
    }

    // 39: v is cut to what the lane holds
    private static void lowestBits() {
        int[][] rows = {
            {0, 256 + 7, 7}, {0, 65536 * 3 + 99, 99}, {0, -256 + 5, 5}, {1, 65536 + 8, 8}, {1, -65536 + 9, 9},
            {2, 10, 10}};
        for (int[] row : rows) {
            SpireLean x = Due.told("dock 1 11 0;");
            x.sheet(2, row[0], 2);
            Due.due("lay", x.lay(2, 1, row[1]), 1);
            Due.due("read of lane " + row[0], x.read(2, row[0], 0, 1), 1);
            Due.due("draw(0, 2) by " + row[1], x.draw(0, 2), row[2]);
        }
        int[][] refused = {{0, 128}, {0, 255}, {0, 100}, {1, 256 + 7}, {1, 32768}, {1, 65535}, {2, 65536 + 8}, {2, 256}};
        for (int[] row : refused) {
            SpireLean x = Due.told("dock 1 11 0;");
            x.sheet(2, row[0], 2);
            x.lay(2, 1, row[1]);
            Due.due("read of " + row[1] + " of lane " + row[0], x.read(2, row[0], 0, 1), -20);
            Due.due("draw(0, 2)", x.draw(0, 2), 11);
        }
    }

    private static void lay(SpireLean x, int k, int... values) {
        for (int i = 0; i < values.length; i++) {
            Due.due("lay(" + k + ", " + i + ", " + values[i] + ")", x.lay(k, i, values[i]), 1);
        }
    }

    private static SpireLean withSheet() {
        SpireLean x = Due.told("dock 20 84 0;market 1 0 0;stiff 0;bears 18;");
        Due.due("sheet(1, 1, 7)", x.sheet(1, 1, 7), 1);
        lay(x, 1, 0, 94, 0, 4, 1, 99, 0);
        return x;
    }

    // 40: a YEAR goes behind each
    private static void reads() {
        SpireLean x = withSheet();
        Due.due("read, none", x.read(1, 1, 0, 0), 0);
        Due.due("rule(1)", x.rule(1), 0);
        Due.due("read, one", x.read(1, 1, 0, 1), 1);
        Due.due("rule(1)", x.rule(1), 1);
        Due.due("rule(3)", x.rule(3), 54);
        Due.due("draw(0, 2)", x.draw(0, 2), 94);
        x = withSheet();
        Due.due("read, two", x.read(1, 1, 0, 2), 2);
        Due.due("rule(3)", x.rule(3), 44);
        Due.due("draw(0, 2)", x.draw(0, 2), 4);
        x = withSheet();
        Due.due("read, three", x.read(1, 1, 0, 3), 3);
        Due.due("rule(1)", x.rule(1), 3);
        Due.due("rule(3)", x.rule(3), 34);
        Due.due("draw(1, 2)", x.draw(1, 2), 99);
        Due.due("torn()", x.torn(), 0);
        x = withSheet();
        Due.due("read from CELL 4 on", x.read(1, 1, 4, 1), 1);
        Due.due("draw(1, 2)", x.draw(1, 2), 99);
        Due.due("draw(0, 2)", x.draw(0, 2), 84);
        x = withSheet();
        x.sheet(0, 2, 40);
        Due.due("read, twenty", x.read(0, 2, 0, 20), 20);
        Due.due("rule(1)", x.rule(1), 20);
        Due.due("read(-1, ..)", x.read(-1, 1, 0, 1), Due.BAD);
        Due.due("read(4, ..)", x.read(4, 1, 0, 1), Due.BAD);
        Due.due("read(1, -1, ..)", x.read(1, -1, 0, 1), Due.BAD);
        Due.due("read(1, 3, ..)", x.read(1, 3, 0, 1), Due.BAD);
        Due.due("read(.., -1)", x.read(1, 1, 0, -1), Due.BAD);
        Due.due("read(.., 21)", x.read(1, 1, 0, 21), Due.BAD);
        Due.due("rule(1)", x.rule(1), 20);
    }

    // 40, 41: what the machine refuses
    private static void readFaults() {
        SpireLean x = withSheet();
        Due.due("read, the 4th is not whole", x.read(1, 1, 0, 4), 3);
        Due.due("torn()", x.torn(), 2);
        Due.due("rule(1)", x.rule(1), 3);
        Due.due("draw(1, 2)", x.draw(1, 2), 99);
        Due.due("read, BAD", x.read(1, 1, 0, 21), Due.BAD);
        Due.due("torn() stays", x.torn(), 2);
        Due.due("read, whole", x.read(1, 1, 0, 1), 1);
        Due.due("torn()", x.torn(), 0);
        Due.due("read, another lane", x.read(1, 2, 0, 1), 0);
        Due.due("torn()", x.torn(), 3);
        Due.due("read, another lane ahead of the index", x.read(1, 0, 99, 1), 0);
        Due.due("torn()", x.torn(), 3);
        Due.due("read, nothing", x.read(3, 0, -1, 1), 0);
        Due.due("torn()", x.torn(), 1);
        Due.due("rule(1)", x.rule(1), 4);
        int[] outside = {-1, -2, 6, 7, 8, 40, Integer.MIN_VALUE, Integer.MAX_VALUE, Integer.MAX_VALUE - 1};
        for (int f : outside) {
            x.read(1, 1, 0, 0);
            Due.due("torn(), none read", x.torn(), 0);
            Due.due("read from " + f, x.read(1, 1, f, 20), 0);
            Due.due("torn() from " + f, x.torn(), 2);
        }
        // what is not whole is not looked at: DRAW 9 would be refused
        x.lay(1, 6, 9);
        Due.due("read from 6", x.read(1, 1, 6, 1), 0);
        Due.due("torn()", x.torn(), 2);
        x.sheet(2, 0, 0);
        Due.due("read of no CELLS", x.read(2, 0, 0, 1), 0);
        Due.due("torn()", x.torn(), 2);
    }

    // 40: then none came
    private static void readRefused() {
        SpireLean x = withSheet();
        x.read(1, 1, 9, 1);
        x.lay(1, 4, 2);
        Due.due("read, no such DRAW", x.read(1, 1, 0, 3), -22);
        Due.due("torn() stays", x.torn(), 2);
        Due.due("rule(1)", x.rule(1), 0);
        Due.due("rule(3)", x.rule(3), 44);
        Due.due("draw(0, 2)", x.draw(0, 2), 84);
        Due.due("read, the first met", x.read(1, 1, 0, 20), -22);
        x.lay(1, 4, 1);
        x.lay(1, 5, 100);
        Due.due("read, no CELL", x.read(1, 1, 0, 3), -22);
        x.lay(1, 3, -1);
        Due.due("read, no CELL", x.read(1, 1, 0, 3), -21);
        x.lay(1, 0, -1);
        Due.due("read, no such DRAW", x.read(1, 1, 0, 3), -20);
        Due.due("read, none asked for", x.read(1, 1, 0, 0), 0);
        Due.due("rule(1)", x.rule(1), 0);
    }

    private static void readLastYear() {
        SpireLean x = withSheet();
        for (int i = 0; i < 33; i++) {
            x.years(30);
        }
        x.years(8);
        Due.due("rule(1)", x.rule(1), 998);
        Due.due("read, two", x.read(1, 1, 0, 2), -21);
        Due.due("rule(1)", x.rule(1), 998);
        Due.due("read, one", x.read(1, 1, 0, 1), 1);
        Due.due("rule(1)", x.rule(1), 999);
        Due.due("read, one", x.read(1, 1, 0, 1), -20);
        Due.due("read, none", x.read(1, 1, 0, 0), 0);
        Due.due("read, not whole", x.read(1, 1, 6, 1), 0);
        Due.due("torn()", x.torn(), 2);
    }

    // 42
    private static void counts() {
        SpireLean x = Due.told(Due.TOWN);
        int[] counts = {0, 0, 0, Due.NONE, 39, 2};
        for (int what = 0; what < counts.length; what++) {
            Due.due("count(" + what + ")", x.count(what), counts[what]);
        }
        Due.due("count(-1)", x.count(-1), Due.BAD);
        Due.due("count(6)", x.count(6), Due.BAD);
        x.see(1, 1);
        x.keep(1);
        x.keep(1);
        x.feed('x');
        x.feed('x');
        x.sheet(0, 1, 5);
        x.sheet(1, 1, 6);
        x.years(5);
        int[] more = {1, 1, 2, 5, 39, 3};
        for (int what = 0; what < more.length; what++) {
            Due.due("count(" + what + ")", x.count(what), more[what]);
        }
        x.years(15);
        Due.due("count(5) in YEAR 20", x.count(5), 4);
        x.raze(1);
        Due.due("count(4)", x.count(4), 9);
        Due.due("count(5)", x.count(5), 1);
    }
}
