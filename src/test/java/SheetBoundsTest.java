/** Promises 36 to 42 (keep, back, sheet, lay, read, torn, count): each bound by itself. */
public final class SheetBoundsTest {
    public static void main(String[] args) {
        keepBounds();
        keepTellsWhetherThereWasOne();
        backBounds();
        backOfNone();
        backOfAllDraws();
        backIsAllOfTheImage();
        sheetBounds();
        sheetBelow0();
        sheetIsANewRow();
        sheetRefusedLeavesTheRow();
        layWhichSheet();
        layOfNothing();
        layIndex();
        layLowestBits();
        readBounds();
        readOfNone();
        readOf20();
        readNull();
        readCast();
        readIndex();
        readThatIsNotWhole();
        readRefusedByAlter();
        readInTheLastYear();
        readTheFirstMet();
        readMovesBetween();
        tornOfTheLatest();
        countBounds();
        countOfNoneAndAll();
        Due.finish();
    }

    // 36: "IMAGE k (0, 1) ... BAD"
    private static void keepBounds() {
        Bounds.of("keep in none", States::fresh, (x, v) -> x.keep(v), 0, 0, 1, 0);
        Bounds.of("keep in some", States::some, (x, v) -> x.keep(v), 0, 1, 1, 0);
        Bounds.of("keep in all", States::full, (x, v) -> x.keep(v), 0, 1, 1, 1);
        Bounds.outsideInAll("keep", (x, v) -> x.keep(v), 0, 1);
    }

    // 36: "whether there was one (1, 0)"
    private static void keepTellsWhetherThereWasOne() {
        SpireLean x = new SpireLean();
        Due.due("keep(0)", x.keep(0), 0);
        Due.due("keep(0) again", x.keep(0), 1);
        Due.due("count(1)", x.count(1), 1);
        Due.due("keep(1)", x.keep(1), 0);
        Due.due("keep(1) again", x.keep(1), 1);
        Due.due("count(1)", x.count(1), 2);
        x.text();
        Due.due("keep(0) behind a text", x.keep(0), 0);
        x.back(0);
        Due.due("keep(0) behind back(0)", x.keep(0), 1);
    }

    // 37: "BAD"
    private static void backBounds() {
        Bounds.outsideInAll("back", (x, v) -> x.back(v), 0, 1);
        Due.due("back(0)", States.full().back(0), 0);
        Due.due("back(1)", States.full().back(1), 2);
    }

    // 37: "STATE: there is none"
    private static void backOfNone() {
        Bounds.refused("back(0) of none", States::fresh, x -> x.back(0), Due.STATE);
        Bounds.refused("back(1) of none", States::fresh, x -> x.back(1), Due.STATE);
        Bounds.refused("back(1) of one", States::some, x -> x.back(1), Due.STATE);
        SpireLean x = States.full();
        x.text();
        Due.due("back(0) behind a text", x.back(0), Due.STATE);
        Due.due("back(1) behind a text", x.back(1), Due.STATE);
        // a text that is refused leaves them
        x = States.full();
        x.end(0);
        x.feed('#');
        x.text();
        Due.due("back(0) behind a FAULT", x.back(0), 0);
        Due.due("back(1) behind a FAULT", x.back(1), 2);
    }

    // 36: "DRAWS (all of them)": none of them, five of them
    private static void backOfAllDraws() {
        SpireLean x = new SpireLean();
        x.keep(0);
        for (int i = 0; i < 5; i++) {
            x.put(i % 4, 4 * i + 1, 22 * i);
            x.alter(i, 3, 12 * i + 12);
        }
        x.keep(1);
        x.back(0);
        Due.due("none of them", x.rule(0), 0);
        Due.due("none of them", x.draw(0, 0), Due.BAD);
        x.back(1);
        Due.due("five of them", x.rule(0), 5);
        for (int i = 0; i < 5; i++) {
            Due.due("KIND of " + i, x.draw(i, 0), i % 4);
            Due.due("PULL of " + i, x.draw(i, 1), 4 * i + 1);
            Due.due("AT of " + i, x.draw(i, 2), 22 * i);
            Due.due("SINCE of " + i, x.draw(i, 3), 12 * i + 12);
        }
    }

    // 36, 37: "THE FOOT, THE POINT, STIFF, BEARS, YEAR", "All is as IMAGE k: YEAR"
    private static void backIsAllOfTheImage() {
        SpireLean x = Due.told("foot 7;stiff 20;bears 18;");
        x.years(9);
        x.bend(70);
        x.keep(0);
        x.stiff(0);
        x.bears(0);
        x.bend(7);
        x.years(30);
        x.put(0, 1, 1);
        x.see(2, 2);
        x.sheet(0, 1, 7);
        x.feed('a');
        Due.due("back(0)", x.back(0), 9);
        int[] rules = {0, 9, 7, 70, 14, 0, Due.NONE, 280, 20, 18};
        for (int what = 0; what < rules.length; what++) {
            Due.due("rule(" + what + ")", x.rule(what), rules[what]);
        }
        Due.due("SEEN stays", x.count(0), 1);
        Due.due("IMAGES stay", x.count(1), 1);
        Due.due("THE TAPE stays", x.count(2), 1);
        Due.due("SHEETS stay", x.count(3), 7);
        Due.due("back(0) again", x.back(0), 9);
        // from the last YEAR to the first and again to the last
        x = new SpireLean();
        x.keep(0);
        States.toLastYear(x);
        x.keep(1);
        Due.due("back to YEAR 0", x.back(0), 0);
        Due.due("years(30)", x.years(30), 44);
        Due.due("back to YEAR 999", x.back(1), 999);
        Due.due("years(1)", x.years(1), Due.FULL);
    }

    // 38: "BAD: also n above 40": SHEETS 0 to 3, lanes 0 to 2, 0 to 40 CELLS
    private static void sheetBounds() {
        Bounds.of("sheet(v, ..)", States::some, (x, v) -> x.sheet(v, 0, 1), 0, 1, 3, 1);
        Bounds.of("sheet(.., v, ..)", States::some, (x, v) -> x.sheet(0, v, 1), 0, 1, 2, 1);
        Bounds.outsideInAll("sheet(v, ..)", (x, v) -> x.sheet(v, 0, 1), 0, 3);
        Bounds.outsideInAll("sheet(.., v, ..)", (x, v) -> x.sheet(0, v, 1), 0, 2);
        for (int lane = 0; lane < 3; lane++) {
            int of = lane;
            SpireLean x = new SpireLean();
            Due.due("sheet of 0 CELLS", x.sheet(0, lane, 0), 1);
            Due.due("count(3)", x.count(3), 0);
            Due.due("sheet of 40 CELLS", x.sheet(0, lane, 40), 1);
            Due.due("count(3)", x.count(3), 40);
            Bounds.refused("sheet of 41 CELLS", States::some, y -> y.sheet(0, of, 41), Due.BAD);
            Bounds.refused("sheet of the most", States::some, y -> y.sheet(0, of, Integer.MAX_VALUE), Due.BAD);
        }
    }

    // 38: "-10 - 4"
    private static void sheetBelow0() {
        for (int n : new int[] {-1, -2, -40, -41, Integer.MIN_VALUE + 1, Integer.MIN_VALUE}) {
            Bounds.refused("sheet(0, 1, " + n + ") of nothing", States::fresh, x -> x.sheet(0, 1, n), -14);
            Bounds.refused("sheet(0, 1, " + n + ") of some", States::some, x -> x.sheet(0, 1, n), -14);
            Bounds.refused("sheet(3, 2, " + n + ") of all", States::full, x -> x.sheet(3, 2, n), -14);
        }
    }

    // 38: "a new row of CELLS 0"
    private static void sheetIsANewRow() {
        for (int lane = 0; lane < 3; lane++) {
            SpireLean x = Due.told("dock 1 55 0;dock 1 66 0;");
            x.sheet(2, lane, 40);
            for (int i = 0; i < 40; i++) {
                x.lay(2, i, 1);
            }
            Due.due("sheet, of less CELLS", x.sheet(2, lane, 4), 1);
            for (int f = 0; f < 3; f++) {
                x.alter(0, 2, 55);
                Due.due("read, CELLS 0", x.read(2, lane, f, 1), 1);
                Due.due("AT", x.draw(0, 2), 0);
                Due.due("AT of the other", x.draw(1, 2), 66);
            }
            Due.due("read behind it", x.read(2, lane, 4, 1), 0);
            Due.due("torn()", x.torn(), 2);
            // what had been laid is gone, where there are more CELLS again, too
            Due.due("sheet, of more CELLS", x.sheet(2, lane, 40), 1);
            x.alter(0, 2, 55);
            Due.due("read, CELLS 0", x.read(2, lane, 38, 1), 1);
            Due.due("AT", x.draw(0, 2), 0);
            // of another lane
            Due.due("sheet, of another lane", x.sheet(2, (lane + 1) % 3, 2), 1);
            Due.due("read of the lane that it was", x.read(2, lane, 0, 1), 0);
            Due.due("torn()", x.torn(), 3);
            Due.due("read of the lane that it is", x.read(2, (lane + 1) % 3, 0, 1), 1);
        }
    }

    // 38: what is refused changes nothing
    private static void sheetRefusedLeavesTheRow() {
        SpireLean x = Due.told("dock 1 55 0;");
        x.sheet(0, 1, 2);
        x.lay(0, 1, 77);
        Due.due("sheet of 41", x.sheet(0, 2, 41), Due.BAD);
        Due.due("sheet below 0", x.sheet(0, 2, -1), -14);
        Due.due("sheet of lane 3", x.sheet(0, 3, 1), Due.BAD);
        Due.due("count(3)", x.count(3), 2);
        Due.due("read", x.read(0, 1, 0, 1), 1);
        Due.due("AT", x.draw(0, 2), 77);
    }

    // 39: "BAD: k"
    private static void layWhichSheet() {
        Bounds.of("lay(v, ..)", States::full, (x, v) -> x.lay(v, 39, 1), 0, 1, 3, 1);
        Bounds.outsideInAll("lay(v, ..)", (x, v) -> x.lay(v, 0, 1), 0, 3);
    }

    // 39: "-10 less the FAULT: NULL"
    private static void layOfNothing() {
        for (int k = 0; k < 4; k++) {
            int of = k;
            for (int i : new int[] {0, 1, 39, 40, -1, Integer.MIN_VALUE, Integer.MAX_VALUE}) {
                Bounds.refused("lay(" + k + ", " + i + ", 1)", States::fresh, x -> x.lay(of, i, 1), -11);
            }
        }
        Bounds.refused("lay(3, 0, 1)", States::some, x -> x.lay(3, 0, 1), -11);
    }

    // 39: "INDEX"
    private static void layIndex() {
        int[] sizes = {0, 1, 2, 39, 40};
        for (int size : sizes) {
            for (int lane = 0; lane < 3; lane++) {
                SpireLean x = new SpireLean();
                x.sheet(1, lane, size);
                Due.due("lay at 0 of " + size, x.lay(1, 0, 1), size == 0 ? -12 : 1);
                Due.due("lay at the last of " + size, x.lay(1, size - 1, 1), size == 0 ? -12 : 1);
                for (int i : new int[] {-1, size, size + 1, 41, Integer.MIN_VALUE, Integer.MAX_VALUE}) {
                    Due.due("lay at " + i + " of " + size, x.lay(1, i, 1), -12);
                }
            }
        }
        Bounds.refused("lay behind the last", States::some, x -> x.lay(0, 6, 1), -12);
        Bounds.refused("lay ahead of the first", States::some, x -> x.lay(0, -1, 1), -12);
        Bounds.refused("lay behind the last of 40", States::full, x -> x.lay(0, 40, 1), -12);
    }

    /** The CELL of THE TOWN that is read where v was laid, or what read() refuses. */
    private static int laid(int lane, int v) {
        SpireLean x = Due.told("dock 1 55 0;");
        x.sheet(1, lane, 2);
        Due.due("lay of " + v, x.lay(1, 1, v), 1);
        int came = x.read(1, lane, 0, 1);
        return came == 1 ? x.draw(0, 2) : came;
    }

    // 39: "becomes v (its lowest bits)"
    private static void layLowestBits() {
        int[][] rows = {
            {0, 0, 0}, {0, 99, 99}, {0, 100, -20}, {0, 127, -20}, {0, 128, -20}, {0, 255, -20}, {0, 256, 0},
            {0, 355, 99}, {0, 356, -20}, {0, -1, -20}, {0, -128, -20}, {0, -156, -20}, {0, -157, 99}, {0, -256, 0},
            {0, 65536, 0}, {0, Integer.MIN_VALUE, 0}, {0, Integer.MAX_VALUE, -20}, {0, Integer.MIN_VALUE + 99, 99},
            {1, 0, 0}, {1, 99, 99}, {1, 100, -20}, {1, 256, -20}, {1, 355, -20}, {1, 32767, -20}, {1, 32768, -20},
            {1, 65535, -20}, {1, 65536, 0}, {1, 65635, 99}, {1, 65636, -20}, {1, -1, -20}, {1, -65536, 0},
            {1, -65437, 99}, {1, -256, -20}, {1, Integer.MIN_VALUE, 0}, {1, Integer.MAX_VALUE, -20},
            {2, 0, 0}, {2, 99, 99}, {2, 100, -20}, {2, 256, -20}, {2, 65536, -20}, {2, -1, -20}, {2, -256, -20},
            {2, Integer.MIN_VALUE, -20}, {2, Integer.MAX_VALUE, -20}};
        for (int[] row : rows) {
            Due.due(row[1] + " laid in lane " + row[0], laid(row[0], row[1]), row[2]);
        }
    }

    // 40: "n (0 to 20)", "BAD: k, lane, n"
    private static void readBounds() {
        Bounds.of("read(v, ..)", States::full, (x, v) -> x.read(v, 0, 4, 1), 0, 1, 3, 1);
        Bounds.of("read(.., v, ..)", States::full, (x, v) -> x.read(0, v, 4, 1), 0, 1, 2, 0);
        Bounds.of("read(.., v)", States::full, (x, v) -> x.read(0, 0, 0, v), 0, 0, 20, 20);
        Bounds.outsideInAll("read(v, ..)", (x, v) -> x.read(v, 0, 0, 1), 0, 3);
        Bounds.outsideInAll("read(.., v, ..)", (x, v) -> x.read(0, v, 0, 1), 0, 2);
        Bounds.outsideInAll("read(.., v)", (x, v) -> x.read(0, 0, 0, v), 0, 20);
    }

    // 40: none of them: no CELL is used, so that the machine finds nothing
    private static void readOfNone() {
        SpireLean x = States.some();
        Due.due("read of none", x.read(0, 0, 0, 0), 0);
        Due.due("torn()", x.torn(), 0);
        Due.due("rule(1)", x.rule(1), 3);
        int[][] rows = {{0, 0, 99}, {0, 0, -1}, {0, 1, 0}, {3, 0, 0}};
        for (int[] row : rows) {
            x.read(1, 0, 0, 1);
            Due.due("torn()", x.torn(), 3);
            Due.due("read of none", x.read(row[0], row[1], row[2], 0), 0);
            Due.due("torn() of none", x.torn(), 0);
        }
        x = States.old();
        Due.due("read of none in the last YEAR", x.read(0, 0, 0, 0), 0);
        Due.due("read of none of no DRAWS", new SpireLean().read(0, 0, 0, 0), 0);
    }

    // 40: "two CELLS each from CELL f on": twenty times two are all 40
    private static void readOf20() {
        SpireLean x = Due.told("dock 1 55 0;market 1 66 0;");
        x.sheet(0, 0, 40);
        for (int i = 0; i < 40; i++) {
            x.lay(0, i, i % 2 == 0 ? i / 2 % 2 : i);
        }
        Due.due("read of 20", x.read(0, 0, 0, 20), 20);
        Due.due("torn()", x.torn(), 0);
        Due.due("rule(1)", x.rule(1), 20);
        Due.due("the last of the first", x.draw(0, 2), 37);
        Due.due("the last of the second", x.draw(1, 2), 39);
        Due.due("read of 20 from 2 on", x.read(0, 0, 2, 20), 19);
        Due.due("torn()", x.torn(), 2);
        Due.due("rule(1)", x.rule(1), 39);
        Due.due("read of 19 from 2 on", x.read(0, 0, 2, 19), 19);
        Due.due("torn()", x.torn(), 0);
        Due.due("read of the last", x.read(0, 0, 38, 1), 1);
        Due.due("torn()", x.torn(), 0);
        Due.due("rule(1)", x.rule(1), 59);
    }

    private static void machineFinds(SpireLean x, int k, int lane, int f, int n, int fault) {
        String call = "read(" + k + ", " + lane + ", " + f + ", " + n + ")";
        int year = x.rule(1);
        Due.due(call, x.read(k, lane, f, n), 0);
        Due.due(call + ": torn()", x.torn(), fault);
        Due.due(call + ": rule(1)", x.rule(1), year);
    }

    // 40: "What the machine refuses": NULL, of every lane and every place
    private static void readNull() {
        for (int lane = 0; lane < 3; lane++) {
            for (int f : new int[] {0, -1, 40, Integer.MIN_VALUE, Integer.MAX_VALUE}) {
                machineFinds(States.some(), 3, lane, f, 1, 1);
                machineFinds(States.some(), 3, lane, f, 20, 1);
                machineFinds(States.old(), 3, lane, f, 1, 1);
                machineFinds(new SpireLean(), 3, lane, f, 1, 1);
            }
        }
    }

    // 40: CAST, ahead of INDEX
    private static void readCast() {
        for (int k = 0; k < 3; k++) {
            for (int lane = 0; lane < 3; lane++) {
                for (int f : new int[] {0, -1, 40, Integer.MIN_VALUE, Integer.MAX_VALUE}) {
                    if (lane != k) {
                        machineFinds(States.some(), k, lane, f, 1, 3);
                        machineFinds(States.old(), k, lane, f, 20, 3);
                    }
                }
            }
        }
        SpireLean x = new SpireLean();
        x.sheet(0, 0, 0);
        machineFinds(x, 0, 1, 0, 1, 3);
        machineFinds(x, 0, 0, 0, 1, 2);
    }

    // 40: INDEX
    private static void readIndex() {
        int[] outside = {-1, -2, -40, 6, 7, 40, Integer.MIN_VALUE, Integer.MIN_VALUE + 1, Integer.MAX_VALUE - 1,
            Integer.MAX_VALUE};
        for (int f : outside) {
            machineFinds(States.some(), 0, 0, f, 1, 2);
            machineFinds(States.some(), 0, 0, f, 20, 2);
            machineFinds(States.old(), 0, 0, f, 1, 2);
            machineFinds(States.full(), 0, 0, f < 40 && f > 0 ? f + 40 : f, 20, 2);
        }
    }

    // 40: "those that were whole ahead came"
    private static void readThatIsNotWhole() {
        // 5 CELLS are two and a half
        SpireLean x = Due.told("dock 1 55 0;market 1 66 0;");
        x.sheet(0, 2, 5);
        States.lay(x, 0, 0, 11, 1, 22, 1);
        Due.due("read of 3", x.read(0, 2, 0, 3), 2);
        Due.due("torn()", x.torn(), 2);
        Due.due("rule(1)", x.rule(1), 2);
        Due.due("draw(0, 2)", x.draw(0, 2), 11);
        Due.due("draw(1, 2)", x.draw(1, 2), 22);
        // what is half there is not asked whether it would be refused
        x.lay(0, 4, 9);
        Due.due("read of 3, no such DRAW in half", x.read(0, 2, 0, 3), 2);
        Due.due("torn()", x.torn(), 2);
        Due.due("read from 4 on", x.read(0, 2, 4, 1), 0);
        Due.due("torn()", x.torn(), 2);
        // from 3 on: 22 would be the DRAW, whole and refused
        Due.due("read from 3 on", x.read(0, 2, 3, 1), -20);
        Due.due("torn() stays", x.torn(), 2);
        x.sheet(0, 2, 1);
        machineFinds(x, 0, 2, 0, 1, 2);
        x.sheet(0, 2, 0);
        machineFinds(x, 0, 2, 0, 1, 2);
    }

    // 40: "-20 less i: the i-th, whole, is refused by alter() ... then none came"
    private static void readRefusedByAlter() {
        int[][] pairs = {{2, 0}, {-1, 0}, {0, 100}, {0, -1}, {1, 127}, {5, 5}, {-128, -128}};
        for (int[] pair : pairs) {
            for (int place = 0; place < 20; place++) {
                SpireLean x = Due.told("dock 20 55 0;market 1 66 0;");
                x.sheet(0, 0, 40);
                x.lay(0, 2 * place, pair[0]);
                x.lay(0, 2 * place + 1, pair[1]);
                x.read(1, 0, 0, 1);
                Due.due("read, refused at " + place, x.read(0, 0, 0, 20), -20 - place);
                Due.due("rule(1)", x.rule(1), 0);
                Due.due("rule(3)", x.rule(3), 44);
                Due.due("draw(0, 2)", x.draw(0, 2), 55);
                Due.due("torn() stays", x.torn(), 1);
                Due.due("read of those ahead", x.read(0, 0, 0, place), place);
                Due.due("torn()", x.torn(), 0);
            }
        }
        // the last DRAW and the last CELL are taken
        SpireLean x = States.full();
        x.lay(0, 0, 4);
        x.lay(0, 1, 99);
        Due.due("read of DRAW 4, CELL 99", x.read(0, 0, 0, 1), 1);
        Bounds.refused("read of DRAW 5", () -> laidFull(5, 99), y -> y.read(0, 0, 0, 1), -20);
        Bounds.refused("read of CELL 100", () -> laidFull(4, 100), y -> y.read(0, 0, 0, 20), -20);
        Bounds.refused("read of DRAW -1", () -> laidFull(-1, 99), y -> y.read(0, 0, 0, 20), -20);
        Bounds.refused("read of CELL -1", () -> laidFull(4, -1), y -> y.read(0, 0, 0, 1), -20);
        // no DRAWS at all
        x = new SpireLean();
        x.sheet(0, 0, 2);
        Due.due("read of no DRAWS", x.read(0, 0, 0, 1), -20);
    }

    private static SpireLean laidFull(int draw, int cell) {
        SpireLean x = States.full();
        x.lay(0, 0, draw);
        x.lay(0, 1, cell);
        return x;
    }

    // 40: "or YEAR is 999: then none came"
    private static void readInTheLastYear() {
        Bounds.refused("read in YEAR 999", States::old, x -> x.read(0, 0, 0, 1), -20);
        for (int left = 0; left <= 3; left++) {
            SpireLean x = Due.told("dock 20 55 0;market 1 66 0;");
            x.sheet(0, 0, 40);
            for (int i = 0; i < 33; i++) {
                x.years(30);
            }
            x.years(9 - left);
            int point = x.rule(3);
            Due.due("rule(1)", x.rule(1), 999 - left);
            Due.due("read of 20", x.read(0, 0, 0, 20), -20 - left);
            Due.due("read of one more than YEARS", x.read(0, 0, 0, left + 1), -20 - left);
            Due.due("rule(1)", x.rule(1), 999 - left);
            Due.due("rule(3)", x.rule(3), point);
            Due.due("draw(0, 2)", x.draw(0, 2), 55);
            Due.due("read of as many as YEARS", x.read(0, 0, 0, left), left);
            Due.due("rule(1)", x.rule(1), 999);
        }
    }

    // 40: "the first met"
    private static void readTheFirstMet() {
        SpireLean x = Due.told("dock 20 55 0;");
        x.sheet(0, 0, 5);
        // refused at 1, not whole at 2
        States.lay(x, 0, 0, 1, 7, 1, 0);
        Due.due("refused ahead of not whole", x.read(0, 0, 0, 3), -21);
        Due.due("torn()", x.torn(), 0);
        // refused at 1 and, otherwise, at 0
        x.lay(0, 1, 100);
        Due.due("the first of two", x.read(0, 0, 0, 3), -20);
        // not whole comes first: YEAR 999 is met by what is whole alone
        x = States.old();
        Due.due("not whole in YEAR 999", x.read(0, 0, 5, 1), 0);
        Due.due("torn()", x.torn(), 2);
        Due.due("whole in YEAR 999", x.read(0, 0, 4, 1), -20);
        Due.due("torn() stays", x.torn(), 2);
    }

    // 40: "and a YEAR goes behind each"
    private static void readMovesBetween() {
        SpireLean x = Due.told("dock 20 44 0;stiff 0;");
        x.sheet(0, 0, 6);
        States.lay(x, 0, 0, 49, 0, 49, 0, 4);
        Due.due("read of 3", x.read(0, 0, 0, 3), 3);
        Due.due("to 45, to 46, then up", x.rule(3), 36);
        Due.due("rule(1)", x.rule(1), 3);
        // FALLEN a YEAR goes as well
        x = Due.told("dock 20 44 0;bears 0;");
        x.bend(47);
        x.sheet(0, 0, 2);
        Due.due("read of the FALLEN", x.read(0, 0, 0, 1), 1);
        Due.due("rule(3)", x.rule(3), 47);
        Due.due("rule(1)", x.rule(1), 1);
        Due.due("draw(0, 2)", x.draw(0, 2), 0);
    }

    // 41: "The FAULT of the latest read() that came to an end; 0"
    private static void tornOfTheLatest() {
        SpireLean x = States.full();
        Due.due("torn() at first", x.torn(), 0);
        x.sheet(3, 0, -1);
        Due.due("torn() behind SIZE", x.torn(), 0);
        x.lay(0, 40, 0);
        Due.due("torn() behind INDEX of lay()", x.torn(), 0);
        x.read(0, 1, 0, 1);
        Due.due("torn() behind CAST", x.torn(), 3);
        x.read(0, 0, 40, 1);
        Due.due("torn() behind INDEX", x.torn(), 2);
        x.read(0, 0, 40, 21);
        Due.due("torn() behind BAD", x.torn(), 2);
        x.read(4, 0, 0, 1);
        Due.due("torn() behind BAD", x.torn(), 2);
        x.read(0, 3, 0, 1);
        Due.due("torn() behind BAD", x.torn(), 2);
        x.lay(0, 0, 9);
        x.read(0, 0, 0, 1);
        Due.due("torn() behind what is refused", x.torn(), 2);
        x.read(0, 0, 2, 1);
        Due.due("torn() behind a whole one", x.torn(), 0);
        x.read(0, 0, 38, 20);
        Due.due("torn() behind one that came and one that did not", x.torn(), 2);
        x.text();
        x.keep(0);
        x.back(0);
        x.sheet(0, 0, 1);
        Due.due("torn() behind other calls", x.torn(), 2);
        Due.due("torn() behind NULL", nullTorn(), 1);
    }

    private static int nullTorn() {
        SpireLean x = new SpireLean();
        x.read(0, 0, 0, 1);
        return x.torn();
    }

    // 42: "BAD"
    private static void countBounds() {
        Bounds.of("count of none", States::fresh, (x, v) -> x.count(v), 0, 0, 5, 0);
        Bounds.of("count of some", States::some, (x, v) -> x.count(v), 0, 2, 5, 2);
        Bounds.of("count of all", States::full, (x, v) -> x.count(v), 0, 6, 5, 4);
        Bounds.outsideInAll("count", (x, v) -> x.count(v), 0, 5);
    }

    // 42: nothing there and all of it there
    private static void countOfNoneAndAll() {
        int[] none = {0, 0, 0, Due.NONE, 0, 0};
        int[] all = {6, 2, 160, 40, 47, 4};
        for (int what = 0; what < 6; what++) {
            Due.due("none: count(" + what + ")", new SpireLean().count(what), none[what]);
            Due.due("all: count(" + what + ")", States.full().count(what), all[what]);
        }
        SpireLean x = new SpireLean();
        x.sheet(1, 0, 9);
        Due.due("CELLS of SHEET 0, nothing", x.count(3), Due.NONE);
        x.sheet(0, 0, 0);
        Due.due("CELLS of SHEET 0, none", x.count(3), 0);
        for (int i = 0; i < 5; i++) {
            x.put(0, 20, 0);
        }
        Due.due("PULL of all, the most", x.count(4), 100);
        Due.due("DRAWS that draw, the most", x.count(5), 5);
        for (int i = 0; i < 5; i++) {
            x.alter(i, 3, 60);
            x.alter(i, 1, 1);
        }
        Due.due("PULL of all, the least", x.count(4), 5);
        Due.due("DRAWS that draw, none of five", x.count(5), 0);
        x.years(30);
        x.years(29);
        Due.due("DRAWS that draw in YEAR 59", x.count(5), 0);
        x.years(1);
        Due.due("DRAWS that draw in YEAR 60", x.count(5), 5);
    }
}
