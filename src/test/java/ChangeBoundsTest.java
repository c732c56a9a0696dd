/** Promises 8 to 13 (alter, stiff, bears, bend, put, raze): each bound by itself. */
public final class ChangeBoundsTest {
    public static void main(String[] args) {
        alterWhichDraw();
        alterWhat();
        alterToWhat();
        alterTellsWhatItWas();
        stiffBounds();
        bearsBounds();
        bendBounds();
        putBounds();
        putIsFull();
        putIsSinceYear0();
        razeBounds();
        razeKeepsTheFirst();
        Due.finish();
    }

    // 8: "of a DRAW ... BAD"
    private static void alterWhichDraw() {
        Bounds.outside("alter of none", States::fresh, (x, v) -> x.alter(v, 2, 0), 0, -1);
        Bounds.of("alter of some", States::some, (x, v) -> x.alter(v, 2, 0), 0, 84, 2, 60);
        Bounds.of("alter of all", States::full, (x, v) -> x.alter(v, 2, 0), 0, 84, 4, 99);
        Bounds.of("alter in the last YEAR", States::old, (x, v) -> x.alter(v, 1, 20), 0, 6, 2, 12);
        SpireLean x = States.full();
        x.raze(4);
        Due.due("alter of the last", x.alter(3, 2, 1), 0);
        Due.due("alter of what was razed", x.alter(4, 2, 1), Due.BAD);
    }

    // 8: "(what 0 to 3)"
    private static void alterWhat() {
        Bounds.of("alter(1, what, 1)", States::some, (x, v) -> x.alter(1, v, 1), 0, 1, 3, 5);
        // draw() has what 4 to 6 to tell, alter() has none
        Bounds.refused("alter(1, 4, 1)", States::some, x -> x.alter(1, 4, 1), Due.BAD);
        Bounds.refused("alter(1, 5, 1)", States::some, x -> x.alter(1, 5, 1), Due.BAD);
        Bounds.refused("alter(1, 6, 1)", States::some, x -> x.alter(1, 6, 1), Due.BAD);
    }

    // 8: KIND 0 to 3, PULL 1 to 20, AT 0 to 99, SINCE 0 to 60
    private static void alterToWhat() {
        Bounds.of("alter(1, 0, v)", States::some, (x, v) -> x.alter(1, 0, v), 0, 1, 3, 1);
        Bounds.of("alter(1, 1, v)", States::some, (x, v) -> x.alter(1, 1, v), 1, 9, 20, 9);
        Bounds.of("alter(1, 2, v)", States::some, (x, v) -> x.alter(1, 2, v), 0, 28, 99, 28);
        Bounds.of("alter(1, 3, v)", States::some, (x, v) -> x.alter(1, 3, v), 0, 5, 60, 5);
    }

    // 8: "becomes v: what it was"
    private static void alterTellsWhatItWas() {
        int[] least = {0, 1, 0, 0};
        int[] most = {3, 20, 99, 60};
        for (int what = 0; what < 4; what++) {
            SpireLean x = States.full();
            Due.due("alter to the least", x.alter(4, what, least[what]), new int[] {3, 1, 99, 0}[what]);
            Due.due("alter to the most", x.alter(4, what, most[what]), least[what]);
            Due.due("alter to what it is", x.alter(4, what, most[what]), most[what]);
            Due.due("draw(4, " + what + ")", x.draw(4, what), most[what]);
            // the others, and its other traits, are as they were
            for (int i = 0; i < 5; i++) {
                for (int other = 0; other < 4; other++) {
                    if (i != 4 || other != what) {
                        Due.due("draw(" + i + ", " + other + ")", x.draw(i, other), States.full().draw(i, other));
                    }
                }
            }
        }
        // a KIND is seen by the STRENGTH, an AT by the FORCE at once
        SpireLean x = Due.told("chimney 7 44 0;");
        x.alter(0, 0, 3);
        Due.due("STRENGTH", x.draw(0, 4), 12);
        x.alter(0, 2, 99);
        Due.due("FORCE", x.draw(0, 5), 65);
        x.alter(0, 3, 1);
        Due.due("FORCE", x.draw(0, 5), 0);
    }

    // 9
    private static void stiffBounds() {
        Bounds.outsideInAll("stiff", (x, v) -> x.stiff(v), 0, 20);
        Bounds.of("stiff", States::some, (x, v) -> x.stiff(v), 0, 4, 20, 4);
        SpireLean x = States.some();
        x.stiff(20);
        Due.due("stiff(20) again", x.stiff(20), 20);
        Due.due("BACK", x.rule(7), 60);
        Due.due("stiff(0)", x.stiff(0), 20);
        Due.due("BACK", x.rule(7), 0);
        Due.due("stiff(0) again", x.stiff(0), 0);
        Due.due("BEARS", x.rule(9), 9);
    }

    // 10
    private static void bearsBounds() {
        Bounds.outsideInAll("bears", (x, v) -> x.bears(v), 0, 18);
        Bounds.of("bears", States::some, (x, v) -> x.bears(v), 0, 9, 18, 9);
        SpireLean x = States.some();
        x.bears(18);
        Due.due("bears(18) again", x.bears(18), 18);
        Due.due("FALLEN", x.rule(5), 0);
        Due.due("bears(0)", x.bears(0), 18);
        Due.due("FALLEN", x.rule(5), 1);
        Due.due("bears(0) again", x.bears(0), 0);
        Due.due("STIFF", x.rule(8), 4);
    }

    // 11
    private static void bendBounds() {
        Bounds.outsideInAll("bend", (x, v) -> x.bend(v), 0, 99);
        Bounds.of("bend", States::some, (x, v) -> x.bend(v), 0, 85, 99, 85);
        SpireLean x = Due.told("foot 99;bears 0;");
        Due.due("bend(0)", x.bend(0), 99);
        Due.due("LEAN", x.rule(4), 18);
        Due.due("FALLEN", x.rule(5), 1);
        Due.due("bend(0) again", x.bend(0), 0);
        Due.due("bend to THE FOOT of the FALLEN", x.bend(99), 0);
        Due.due("FALLEN", x.rule(5), 0);
        Due.due("THE FOOT", x.rule(2), 99);
        Due.due("YEAR", x.rule(1), 0);
    }

    // 12: "A DRAW more ... BAD"
    private static void putBounds() {
        Bounds.of("put(v, ..)", States::some, (x, v) -> x.put(v, 1, 1), 0, 4, 3, 4);
        Bounds.of("put(.., v, ..)", States::some, (x, v) -> x.put(0, v, 1), 1, 4, 20, 4);
        Bounds.of("put(.., v)", States::some, (x, v) -> x.put(0, 1, v), 0, 4, 99, 4);
        Bounds.outsideInAll("put(v, ..)", (x, v) -> x.put(v, 1, 1), 0, 3);
        Bounds.outsideInAll("put(.., v, ..)", (x, v) -> x.put(0, v, 1), 1, 20);
        Bounds.outsideInAll("put(.., v)", (x, v) -> x.put(0, 1, v), 0, 99);
    }

    // 12: "how many there are ... FULL"
    private static void putIsFull() {
        SpireLean x = new SpireLean();
        for (int n = 1; n <= 5; n++) {
            Due.due("put, the " + n + "th", x.put(3, 20, 99), n);
        }
        Due.due("put, the 6th", x.put(3, 20, 99), Due.FULL);
        Due.due("put, the 7th", x.put(0, 1, 0), Due.FULL);
        Due.due("rule(0)", x.rule(0), 5);
        x.raze(4);
        Due.due("put, the 5th again", x.put(0, 1, 0), 5);
        Due.due("put, the 6th again", x.put(0, 1, 0), Due.FULL);
        Bounds.refused("put, the 6th", States::full, y -> y.put(0, 1, 0), Due.FULL);
        // told by a text it is full as well
        x = Due.told("dock 1 1 1;dock 1 1 1;dock 1 1 1;dock 1 1 1;dock 1 1 1;");
        Due.due("put, the 6th of a text", x.put(0, 1, 0), Due.FULL);
    }

    // 12: "SINCE YEAR 0"
    private static void putIsSinceYear0() {
        SpireLean x = States.old();
        Due.due("put in the last YEAR", x.put(0, 1, 0), 4);
        Due.due("SINCE", x.draw(3, 3), 0);
        x = Due.told("dock 1 1 60;dock 1 1 59;");
        x.raze(0);
        x.put(1, 2, 3);
        x.put(2, 3, 4);
        Due.due("SINCE, where one was razed", x.draw(0, 3), 0);
        Due.due("SINCE, where one was razed", x.draw(1, 3), 0);
        Due.due("FORCE", x.draw(0, 5), 60 / 6);
    }

    // 13: "how many there were. BAD"
    private static void razeBounds() {
        Bounds.of("raze of none", States::fresh, (x, v) -> x.raze(v), 0, 0, 0, 0);
        Bounds.of("raze of some", States::some, (x, v) -> x.raze(v), 0, 3, 3, 3);
        Bounds.of("raze of all", States::full, (x, v) -> x.raze(v), 0, 5, 5, 5);
    }

    // 13: "DRAWS are the first n alone"
    private static void razeKeepsTheFirst() {
        for (int n = 0; n <= 5; n++) {
            SpireLean x = States.full();
            Due.due("raze(" + n + ")", x.raze(n), 5);
            Due.due("rule(0)", x.rule(0), n);
            for (int i = 0; i < 5; i++) {
                Due.due("draw(" + i + ", 2)", x.draw(i, 2), i < n ? States.full().draw(i, 2) : Due.BAD);
            }
            Due.due("raze again", x.raze(n), n);
        }
        // one that was razed has it no more
        SpireLean x = Due.told("chimney 1 4 0;dock 20 49 0;");
        Due.due("HAS it", x.rule(6), 1);
        x.raze(1);
        Due.due("HAS it", x.rule(6), 0);
        x.raze(0);
        Due.due("HAS it", x.rule(6), Due.NONE);
        // IMAGES have all of them still
        x = States.full();
        x.raze(0);
        x.back(1);
        Due.due("rule(0)", x.rule(0), 5);
    }
}
