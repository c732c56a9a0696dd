/** "BAD, STATE, FULL, NONE ... the first that fits": where two answers could be given, the first of them is. */
public final class FirstThatFitsTest {
    public static void main(String[] args) {
        badAheadOfState();
        badAheadOfFull();
        badAheadOfNone();
        fullAheadOfNone();
        badAheadOfTheMachine();
        theMachinesOwnOrder();
        wrongInMoreThanOne();
        Due.finish();
    }

    private static void badAheadOfState() {
        Due.due("drift, STATE", new SpireLean().drift(1, 1, 0), Due.STATE);
        Due.due("drift of 0, no DRAWS", new SpireLean().drift(1, 0, 0), Due.BAD);
        Due.due("drift of 61, no DRAWS", new SpireLean().drift(1, 61, 0), Due.BAD);
        Due.due("drift what 2, no DRAWS", new SpireLean().drift(1, 1, 2), Due.BAD);
        Due.due("drift what -1, no DRAWS", new SpireLean().drift(1, 1, -1), Due.BAD);
        Due.due("back, STATE", new SpireLean().back(1), Due.STATE);
        Due.due("back of 2, none", new SpireLean().back(2), Due.BAD);
        Due.due("back of -1, none", new SpireLean().back(-1), Due.BAD);
    }

    private static void badAheadOfFull() {
        SpireLean x = States.full();
        Due.due("feed, FULL", x.feed('a'), Due.FULL);
        Due.due("feed of 128, FULL", x.feed(128), Due.BAD);
        Due.due("feed of -1, FULL", x.feed(-1), Due.BAD);
        Due.due("put, FULL", x.put(0, 1, 0), Due.FULL);
        Due.due("put of KIND 4, FULL", x.put(4, 1, 0), Due.BAD);
        Due.due("put of KIND -1, FULL", x.put(-1, 1, 0), Due.BAD);
        Due.due("put of PULL 0, FULL", x.put(0, 0, 0), Due.BAD);
        Due.due("put of PULL 21, FULL", x.put(0, 21, 0), Due.BAD);
        Due.due("put at 100, FULL", x.put(0, 1, 100), Due.BAD);
        Due.due("put at -1, FULL", x.put(0, 1, -1), Due.BAD);
        Due.due("see, FULL", x.see(0, 0), Due.FULL);
        Due.due("see behind 31, FULL", x.see(31, 0), Due.BAD);
        Due.due("see behind -1, FULL", x.see(-1, 0), Due.BAD);
        Due.due("see at 100, FULL", x.see(0, 100), Due.BAD);
        Due.due("see at -1, FULL", x.see(0, -1), Due.BAD);
        Due.due("site, FULL", x.site(0, 1, 0, 0), Due.FULL);
        Due.due("site of KIND 4, FULL", x.site(4, 1, 0, 0), Due.BAD);
        Due.due("site of PULL 0, FULL", x.site(0, 0, 0, 0), Due.BAD);
        Due.due("site of PULL 21, FULL", x.site(0, 21, 0, 0), Due.BAD);
        Due.due("site to 100, FULL", x.site(0, 1, 100, 0), Due.BAD);
        Due.due("site what 2, FULL", x.site(0, 1, 0, 2), Due.BAD);
        Due.due("site what -1, FULL", x.site(0, 1, 0, -1), Due.BAD);
        x = States.old();
        Due.due("years, FULL", x.years(30), Due.FULL);
        Due.due("years of 31, FULL", x.years(31), Due.BAD);
        Due.due("years of -1, FULL", x.years(-1), Due.BAD);
        Due.due("years of the most, FULL", x.years(Integer.MAX_VALUE), Due.BAD);
    }

    private static void badAheadOfNone() {
        SpireLean x = Due.told("chimney 1 44 0;");
        Due.due("comes, NONE", x.comes(45), Due.NONE);
        Due.due("comes to 100", x.comes(100), Due.BAD);
        Due.due("lure, NONE", x.lure(0, 45), Due.NONE);
        Due.due("lure of 1", x.lure(1, 45), Due.BAD);
        Due.due("lure to 100", x.lure(0, 100), Due.BAD);
        Due.due("hush, NONE", x.hush(0), Due.NONE);
        Due.due("hush what 2", x.hush(2), Due.BAD);
        Due.due("swap, NONE", x.swap(1), Due.NONE);
        Due.due("swap what 2", x.swap(2), Due.BAD);
        x.see(0, 0);
        Due.due("spots, NONE", x.spots(0, 1), Due.NONE);
        Due.due("spots what 2", x.spots(0, 2), Due.BAD);
        Due.due("spots of 1", x.spots(1, 1), Due.BAD);
        Due.due("ask, NONE", x.ask(0, 1), Due.NONE);
        Due.due("ask what 2", x.ask(0, 2), Due.BAD);
        Due.due("ask of 1", x.ask(1, 1), Due.BAD);
        Due.due("count, NONE", x.count(3), Due.NONE);
        x.bend(99);
        x.bears(0);
        Due.due("site, NONE", x.site(0, 1, 44, 0), Due.NONE);
        Due.due("site of KIND 4", x.site(4, 1, 44, 0), Due.BAD);
        Due.due("site what 2", x.site(0, 1, 44, 2), Due.BAD);
    }

    private static void fullAheadOfNone() {
        SpireLean x = States.full();
        x.bend(99);
        x.bears(0);
        Due.due("site of the FALLEN, FULL", x.site(0, 1, 44, 0), Due.FULL);
        x.raze(4);
        Due.due("site of the FALLEN", x.site(0, 1, 44, 0), Due.NONE);
    }

    private static void badAheadOfTheMachine() {
        SpireLean x = States.some();
        Due.due("sheet, SIZE", x.sheet(0, 0, -1), -14);
        Due.due("sheet 4, SIZE", x.sheet(4, 0, -1), Due.BAD);
        Due.due("sheet -1, SIZE", x.sheet(-1, 0, -1), Due.BAD);
        Due.due("sheet of lane 3, SIZE", x.sheet(0, 3, -1), Due.BAD);
        Due.due("sheet of lane -1, SIZE", x.sheet(0, -1, -1), Due.BAD);
        Due.due("lay 4, INDEX", x.lay(4, -1, 0), Due.BAD);
        Due.due("lay -1, INDEX", x.lay(-1, 99, 0), Due.BAD);
        Due.due("read of 21, NULL", x.read(3, 0, 0, 21), Due.BAD);
        Due.due("read of -1, CAST", x.read(0, 1, 0, -1), Due.BAD);
        Due.due("read of lane 3, NULL", x.read(3, 3, 0, 1), Due.BAD);
        Due.due("read of SHEET 4, INDEX", x.read(4, 0, 99, 1), Due.BAD);
        Due.due("torn() stays", x.torn(), 3);
        x = States.old();
        Due.due("read of 21 in the last YEAR", x.read(0, 0, 0, 21), Due.BAD);
    }

    // nothing can not be cast or asked for an index; what is of another lane not for an index
    private static void theMachinesOwnOrder() {
        SpireLean x = States.some();
        Due.due("lay, NULL ahead of INDEX", x.lay(3, -1, 0), -11);
        x.read(3, 1, -1, 1);
        Due.due("read, NULL ahead of INDEX", x.torn(), 1);
        x.read(0, 1, -1, 1);
        Due.due("read, CAST ahead of INDEX", x.torn(), 3);
        x.read(0, 0, -1, 1);
        Due.due("read, INDEX", x.torn(), 2);
    }

    private static void wrongInMoreThanOne() {
        SpireLean x = States.full();
        Due.due("put", x.put(9, 99, 999), Due.BAD);
        Due.due("site", x.site(-1, 0, -1, 9), Due.BAD);
        Due.due("alter", x.alter(9, 9, 999), Due.BAD);
        Due.due("draw", x.draw(-1, -1), Due.BAD);
        Due.due("runs", x.runs(61, 5), Due.BAD);
        Due.due("share", x.share(5, 61, 2), Due.BAD);
        Due.due("kind", x.kind(5, 61, 2), Due.BAD);
        Due.due("luck", x.luck(11, 100, 9, 2), Due.BAD);
        Due.due("mean", x.mean(-1, -1, -1), Due.BAD);
        Due.due("see", x.see(31, 100), Due.BAD);
        Due.due("lure", x.lure(5, 100), Due.BAD);
        Due.due("spots", x.spots(5, 2), Due.BAD);
        Due.due("ask", x.ask(-1, 2), Due.BAD);
        Due.due("drift", x.drift(0, 61, 2), Due.BAD);
        Due.due("sheet", x.sheet(4, 3, 41), Due.BAD);
        Due.due("read", x.read(4, 3, -1, 21), Due.BAD);
    }
}
