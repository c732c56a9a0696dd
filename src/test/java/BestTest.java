/** Promises 20 to 26: need, brace, lure, site, hush, swap, kind. */
public final class BestTest {
    public static void main(String[] args) {
        needs();
        braces();
        lures();
        sites();
        hushes();
        swaps();
        kinds();
        Due.finish();
    }

    // 20
    private static void needs() {
        Due.due("need(), no DRAWS", new SpireLean().need(), 0);
        SpireLean x = Due.told("dock 20 4 0;bears 3;stiff 0;");
        Due.due("need()", x.need(), 4);
        x.bears(0);
        Due.due("need()", x.need(), 4);
        x.bend(94);
        Due.due("need(), now too", x.need(), 5);
        x = Due.told("foot 0;");
        x.bend(99);
        Due.due("need(), the most", x.need(), 18);
        x = Due.told("dock 20 45 60;bears 0;");
        Due.due("need(), behind 60 YEARS", x.need(), 0);
        x.alter(0, 3, 59);
        Due.due("need(), behind 60 YEARS", x.need(), 1);
    }

    // 21
    private static void braces() {
        Due.due("brace(), no DRAWS", new SpireLean().brace(), 0);
        // by LEAN 3 the dock's force is 180 by 3: BACK, 3 times STIFF, must be as much
        SpireLean x = Due.told("dock 1 49 0;bears 3;stiff 0;");
        Due.due("brace()", x.brace(), 20);
        x.bears(2);
        Due.due("brace(): 45 by LEAN 2 is too much for 20", x.brace(), Due.NONE);
        x.bears(4);
        Due.due("brace(), LEAN is 3 or 5", x.brace(), 20);
        x.bears(5);
        Due.due("brace()", x.brace(), 0);
        x.bears(3);
        x.alter(0, 1, 3);
        Due.due("brace(), a stronger dock", x.brace(), Due.NONE);
        x = Due.told("chimney 1 48 0;bears 2;stiff 9;");
        Due.due("brace(): 20 by LEAN 2", x.brace(), 10);
        Due.due("rule(8)", x.rule(8), 9);
        x.bend(41);
        Due.due("brace(), FALLEN now", x.brace(), Due.NONE);
    }

    // 22
    private static void lures() {
        SpireLean x = Due.told("chimney 9 34 0;chimney 3 54 0;stiff 0;");
        // of forces alike the first HAS it, so the second must be greater
        Due.due("lure(1, 54)", x.lure(1, 54), 10);
        Due.due("lure(0, 34)", x.lure(0, 34), 3);
        Due.due("lure(0, 44), now", x.lure(0, 44), 1);
        Due.due("lure(0, 99)", x.lure(0, 99), Due.NONE);
        Due.due("lure(2, 0)", x.lure(2, 0), Due.BAD);
        Due.due("lure(-1, 0)", x.lure(-1, 0), Due.BAD);
        Due.due("lure(0, -1)", x.lure(0, -1), Due.BAD);
        Due.due("lure(0, 100)", x.lure(0, 100), Due.BAD);
        Due.due("draw(1, 1)", x.draw(1, 1), 3);
        // the most that there is
        x = Due.told("chimney 20 34 0;chimney 3 54 0;stiff 0;");
        Due.due("lure(1, 54)", x.lure(1, 54), Due.NONE);
        x.alter(0, 1, 19);
        Due.due("lure(1, 54)", x.lure(1, 54), 20);
        // in 60 YEARS
        x = Due.told("chimney 9 45 59;");
        Due.due("lure(0, 45)", x.lure(0, 45), 1);
        x.alter(0, 3, 60);
        Due.due("lure(0, 45)", x.lure(0, 45), Due.NONE);
    }

    // 23
    private static void sites() {
        SpireLean x = new SpireLean();
        Due.due("site, it is there", x.site(0, 1, 44, 0), 0);
        Due.due("site, it is there", x.site(0, 1, 44, 1), 0);
        Due.due("site to the next in x", x.site(3, 20, 34, 0), 0);
        Due.due("site to the next in x", x.site(3, 20, 34, 1), 1);
        Due.due("site to the next in y", x.site(3, 20, 43, 0), 10);
        Due.due("site to the other side", x.site(3, 20, 54, 0), 53);
        // FALLEN by then
        x.bears(3);
        Due.due("site out of reach", x.site(3, 20, 0, 0), Due.NONE);
        Due.due("site out of reach", x.site(3, 20, 0, 1), Due.NONE);
        Due.due("site(-1, ..)", x.site(-1, 1, 0, 0), Due.BAD);
        Due.due("site(4, ..)", x.site(4, 1, 0, 0), Due.BAD);
        Due.due("site(0, 0, ..)", x.site(0, 0, 0, 0), Due.BAD);
        Due.due("site(0, 21, ..)", x.site(0, 21, 0, 0), Due.BAD);
        Due.due("site(0, 1, -1, ..)", x.site(0, 1, -1, 0), Due.BAD);
        Due.due("site(0, 1, 100, ..)", x.site(0, 1, 100, 0), Due.BAD);
        Due.due("site(.., 2)", x.site(0, 1, 0, 2), Due.BAD);
        Due.due("site(.., -1)", x.site(0, 1, 0, -1), Due.BAD);
        Due.due("rule(0)", x.rule(0), 0);
        for (int i = 0; i < 5; i++) {
            x.put(0, 1, 1);
        }
        Due.due("site, FULL", x.site(0, 1, 44, 0), Due.FULL);
        Due.due("site, wrong and FULL", x.site(0, 1, 44, 2), Due.BAD);
        // another draw is against it: of forces alike the first HAS it
        x = Due.told("chimney 9 94 0;stiff 0;");
        Due.due("site against 90, as great", x.site(0, 3, 43, 0), Due.NONE);
        Due.due("site against 90, as great", x.site(0, 3, 43, 1), Due.NONE);
        Due.due("site against 90", x.site(0, 4, 43, 0), 43);
        Due.due("site against 90", x.site(0, 4, 43, 1), 1);
        // held at 64 it has one step to go when the dock begins, at 54 two, at 44 three
        x = Due.told("dock 20 74 57;stiff 20;bears 18;");
        Due.due("site, a YEAR sooner each", x.site(1, 1, 74, 0), 64);
        Due.due("site, a YEAR sooner each", x.site(1, 1, 74, 1), 58);
        x.alter(0, 3, 59);
        Due.due("site, behind 60 YEARS", x.site(1, 1, 74, 0), 64);
        Due.due("site, behind 60 YEARS", x.site(1, 1, 74, 1), 60);
        x.alter(0, 3, 60);
        Due.due("site, behind 61 YEARS", x.site(1, 1, 74, 0), Due.NONE);
        // what draws later alone
        x = Due.told("chimney 20 94 60;stiff 0;foot 90;");
        Due.due("site beside one that is silent for 60 YEARS", x.site(1, 1, 91, 1), 1);
        Due.due("site beside one that is silent for 60 YEARS", x.site(1, 1, 91, 0), 19);
    }

    // 24
    private static void hushes() {
        SpireLean x = Due.told("chimney 20 94 0;chimney 5 42 0;chimney 5 24 0;");
        Due.due("runs(60, 2)", x.runs(60, 2), 5);
        Due.due("hush(0)", x.hush(0), 0);
        Due.due("hush(1)", x.hush(1), 2);
        Due.due("hush(2)", x.hush(2), Due.BAD);
        Due.due("hush(-1)", x.hush(-1), Due.BAD);
        // of several the first
        x = Due.told("chimney 1 13 0;chimney 1 67 0;chimney 3 99 0;stiff 7;bears 18;");
        Due.due("runs(60, 2)", x.runs(60, 2), 5);
        Due.due("hush(0), the second or the third", x.hush(0), 1);
        Due.due("hush(1), the second or the third", x.hush(1), 4);
        // the other does the same
        x = Due.told("chimney 9 94 0;chimney 9 94 0;stiff 0;");
        Due.due("hush of two at one CELL", x.hush(0), Due.NONE);
        Due.due("hush of two at one CELL", x.hush(1), Due.NONE);
        Due.due("hush of none", new SpireLean().hush(0), Due.NONE);
        // silent in all YEARS, those behind its SINCE too
        x = Due.told("chimney 9 94 30;");
        Due.due("hush", x.hush(0), 0);
        Due.due("hush", x.hush(1), 0);
        // the LEAN of now can not be made less
        x.bend(14);
        Due.due("hush", x.hush(1), 3);
        x.bend(99);
        Due.due("hush", x.hush(1), Due.NONE);
    }

    // 25
    private static void swaps() {
        // the strong one has the far place; the second and the third may change with it
        SpireLean x = Due.told("chimney 20 94 0;chimney 1 45 0;chimney 1 54 0;stiff 9;");
        Due.due("runs(60, 2)", x.runs(60, 2), 5);
        Due.due("swap(0)", x.swap(0), 1);
        Due.due("swap(1)", x.swap(1), 1);
        Due.due("swap(2)", x.swap(2), Due.BAD);
        Due.due("swap(-1)", x.swap(-1), Due.BAD);
        x.alter(1, 2, 46);
        Due.due("swap(0)", x.swap(0), 2);
        Due.due("swap(1)", x.swap(1), 1);
        x = Due.told("market 1 45 0;chimney 20 94 0;market 1 45 0;stiff 9;");
        Due.due("swap(0)", x.swap(0), 1);
        x.alter(0, 2, 4);
        Due.due("swap(0)", x.swap(0), 12);
        Due.due("draw(1, 2)", x.draw(1, 2), 94);
        Due.due("draw(2, 2)", x.draw(2, 2), 45);
        x = Due.told("chimney 6 75 0;chimney 5 40 0;chimney 1 44 0;stiff 4;");
        Due.due("runs(60, 2)", x.runs(60, 2), 4);
        Due.due("swap(0), of several the least", x.swap(0), 2);
        Due.due("swap(1), of several the least", x.swap(1), 0);
        x.raze(1);
        Due.due("swap of one", x.swap(0), Due.NONE);
        Due.due("swap of one", x.swap(1), Due.NONE);
        x = Due.told("chimney 20 45 0;chimney 1 94 0;stiff 9;");
        Due.due("swap would make it worse", x.swap(0), Due.NONE);
    }

    // 26
    private static void kinds() {
        // at LEAN 1 a chimney has 80, a market 40, a chapel 60, a dock 120 by 3
        SpireLean x = Due.told("market 4 47 0;stiff 20;");
        Due.due("kind(0, 0, 0)", x.kind(0, 0, 0), 0);
        Due.due("kind(0, 0, 1)", x.kind(0, 0, 1), 3);
        Due.due("kind(0, 9, 0)", x.kind(0, 9, 0), 0);
        Due.due("kind(0, 9, 1)", x.kind(0, 9, 1), 0);
        x = Due.told("market 2 49 0;stiff 16;");
        Due.due("kind(0, 2, 0)", x.kind(0, 2, 0), 0);
        Due.due("kind(0, 2, 1)", x.kind(0, 2, 1), 3);
        Due.due("kind(0, 9, 0)", x.kind(0, 9, 0), 3);
        Due.due("kind(0, 9, 1)", x.kind(0, 9, 1), 0);
        Due.due("draw(0, 0)", x.draw(0, 0), 1);
        Due.due("kind(1, 0, 0)", x.kind(1, 0, 0), Due.BAD);
        Due.due("kind(-1, 0, 0)", x.kind(-1, 0, 0), Due.BAD);
        Due.due("kind(0, -1, 0)", x.kind(0, -1, 0), Due.BAD);
        Due.due("kind(0, 61, 0)", x.kind(0, 61, 0), Due.BAD);
        Due.due("kind(0, 0, 2)", x.kind(0, 0, 2), Due.BAD);
        Due.due("kind(0, 0, -1)", x.kind(0, 0, -1), Due.BAD);
    }
}
