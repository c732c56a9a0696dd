/** Promises 29 to 34: see, forget, kinds, pulls, spots, ask. */
public final class SeenTest {
    private static final int ALL_PULLS = (1 << 21) - 2;

    public static void main(String[] args) {
        seeAndForget();
        kindsThatFit();
        pullsThatFit();
        spotsThatFit();
        asks();
        fromNowOn();
        Due.finish();
    }

    // 29, 30
    private static void seeAndForget() {
        SpireLean x = new SpireLean();
        Due.due("forget(0)", x.forget(0), 0);
        Due.due("forget(1)", x.forget(1), Due.BAD);
        Due.due("see(-1, 0)", x.see(-1, 0), Due.BAD);
        Due.due("see(31, 0)", x.see(31, 0), Due.BAD);
        Due.due("see(0, -1)", x.see(0, -1), Due.BAD);
        Due.due("see(0, 100)", x.see(0, 100), Due.BAD);
        Due.due("count(0)", x.count(0), 0);
        Due.due("see(0, 0)", x.see(0, 0), 1);
        Due.due("see(30, 99)", x.see(30, 99), 2);
        for (int n = 3; n <= 6; n++) {
            Due.due("see(0, 0)", x.see(0, 0), n);
        }
        Due.due("see, the 7th", x.see(0, 0), Due.FULL);
        Due.due("see, the 7th, wrong", x.see(31, 0), Due.BAD);
        Due.due("forget(7)", x.forget(7), Due.BAD);
        Due.due("forget(-1)", x.forget(-1), Due.BAD);
        Due.due("forget(6)", x.forget(6), 6);
        Due.due("forget(5)", x.forget(5), 6);
        Due.due("count(0)", x.count(0), 5);
        Due.due("see(1, 1)", x.see(1, 1), 6);
        Due.due("forget(0)", x.forget(0), 6);
        Due.due("count(0)", x.count(0), 0);
        // the first are kept
        x = Due.told("dock 20 84 0;");
        x.see(0, 44);
        x.see(0, 99);
        Due.due("kinds(0)", x.kinds(0), 0);
        x.forget(1);
        Due.due("kinds(0)", x.kinds(0), 15);
    }

    // 31: by LEAN 1 a market (30 by 4) is held, by LEAN 2 a chimney and a chapel too; 12, 30 (20 by 3), 45 by STIFF 16
    private static void kindsThatFit() {
        SpireLean x = Due.told("market 2 49 0;stiff 16;");
        Due.due("kinds(0), nothing SEEN", x.kinds(0), 15);
        x.see(0, 44);
        Due.due("kinds(0), as it is now", x.kinds(0), 15);
        x.see(2, 46);
        Due.due("kinds(0)", x.kinds(0), 13);
        x.see(3, 47);
        Due.due("kinds(0)", x.kinds(0), 8);
        x.forget(1);
        x.see(2, 44);
        Due.due("kinds(0)", x.kinds(0), 2);
        x.see(3, 44);
        Due.due("kinds(0)", x.kinds(0), 0);
        Due.due("draw(0, 0)", x.draw(0, 0), 1);
        Due.due("kinds(-1)", x.kinds(-1), Due.BAD);
        Due.due("kinds(1)", x.kinds(1), Due.BAD);
    }

    // 32
    private static void pullsThatFit() {
        SpireLean x = Due.told("chimney 9 34 0;chimney 3 54 0;stiff 0;");
        Due.due("pulls(1), nothing SEEN", x.pulls(1), ALL_PULLS);
        x.see(1, 54);
        Due.due("pulls(1)", x.pulls(1), ALL_PULLS & -(1 << 10));
        Due.due("pulls(0)", x.pulls(0), 6);
        x.see(1, 34);
        Due.due("pulls(1)", x.pulls(1), 0);
        x.forget(0);
        x.see(30, 34);
        Due.due("pulls(1)", x.pulls(1), (1 << 10) - 2);
        Due.due("draw(1, 1)", x.draw(1, 1), 3);
        Due.due("pulls(-1)", x.pulls(-1), Due.BAD);
        Due.due("pulls(2)", x.pulls(2), Due.BAD);
        x = Due.told("dock 9 34 30;");
        x.see(30, 44);
        Due.due("pulls(0), silent for 30 YEARS", x.pulls(0), ALL_PULLS);
        x.alter(0, 3, 29);
        Due.due("pulls(0), silent for 29 YEARS", x.pulls(0), 0);
    }

    // 33
    private static void spotsThatFit() {
        SpireLean x = Due.told("dock 20 84 0;stiff 0;");
        Due.due("spots(0, 0), nothing SEEN", x.spots(0, 0), 100);
        Due.due("spots(0, 1), nothing SEEN", x.spots(0, 1), 0);
        x.see(1, 54);
        // x is 5 to 9, y by no more than x from 4: 3, 5, 7, 9, 10 (9 is the last)
        Due.due("spots(0, 0)", x.spots(0, 0), 34);
        Due.due("spots(0, 1)", x.spots(0, 1), 53);
        x.see(30, 97);
        Due.due("spots(0, 0)", x.spots(0, 0), 1);
        Due.due("spots(0, 1)", x.spots(0, 1), 97);
        x.see(2, 0);
        Due.due("spots(0, 0)", x.spots(0, 0), 0);
        Due.due("spots(0, 1)", x.spots(0, 1), Due.NONE);
        Due.due("draw(0, 2)", x.draw(0, 2), 84);
        Due.due("spots(1, 0)", x.spots(1, 0), Due.BAD);
        Due.due("spots(-1, 0)", x.spots(-1, 0), Due.BAD);
        Due.due("spots(0, 2)", x.spots(0, 2), Due.BAD);
        Due.due("spots(0, -1)", x.spots(0, -1), Due.BAD);
    }

    // 34
    private static void asks() {
        // by 1 to 9 it goes to 34, by 10 to 20 to 54, in the first YEAR: 11 are left at the worst
        SpireLean x = Due.told("chimney 9 34 0;chimney 3 54 0;stiff 0;");
        Due.due("ask(1, 0)", x.ask(1, 0), 1);
        Due.due("ask(1, 1)", x.ask(1, 1), 11);
        x.see(9, 54);
        Due.due("pulls(1)", x.pulls(1), ALL_PULLS & -(1 << 10));
        Due.due("ask(1, 0): no more is to be told", x.ask(1, 0), Due.NONE);
        Due.due("ask(1, 1): no more is to be told", x.ask(1, 1), Due.NONE);
        x.see(9, 0);
        Due.due("ask(1, 0): none fits", x.ask(1, 0), Due.NONE);
        Due.due("ask(2, 0)", x.ask(2, 0), Due.BAD);
        Due.due("ask(-1, 0)", x.ask(-1, 0), Due.BAD);
        Due.due("ask(0, 2)", x.ask(0, 2), Due.BAD);
        Due.due("ask(0, -1)", x.ask(0, -1), Due.BAD);
        // from CELL 0, where the first has 60, a pull of 3 and more takes it to CELL 1
        x = Due.told("chimney 1 0 0;chimney 3 1 0;stiff 0;foot 0;");
        Due.due("ask(1, 0)", x.ask(1, 0), 1);
        Due.due("ask(1, 1)", x.ask(1, 1), 18);
        // nothing is told ahead of its SINCE; behind 30 YEARS is near enough, behind 31 is not
        x = Due.told("chimney 9 34 29;chimney 3 54 29;stiff 0;");
        Due.due("ask(1, 0)", x.ask(1, 0), 30);
        Due.due("ask(1, 1)", x.ask(1, 1), 11);
        x.alter(0, 3, 30);
        x.alter(1, 3, 30);
        Due.due("ask(1, 0)", x.ask(1, 0), Due.NONE);
    }

    // SEEN is from now on, whenever it is asked
    private static void fromNowOn() {
        SpireLean x = Due.told("dock 20 84 0;stiff 0;");
        x.see(1, 54);
        Due.due("kinds(0)", x.kinds(0), 15);
        x.years(1);
        Due.due("kinds(0) a YEAR later", x.kinds(0), 0);
        x.bend(44);
        Due.due("kinds(0) from 44", x.kinds(0), 15);
        x.keep(0);
        x.see(1, 0);
        Due.due("back(0)", x.back(0), 1);
        Due.due("IMAGES have nothing SEEN", x.count(0), 2);
    }
}
