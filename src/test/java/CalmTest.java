/** Promises 27 and 28: luck, mean. */
public final class CalmTest {
    public static void main(String[] args) {
        lucks();
        means();
        corners();
        yearsGoOnInCalm();
        Due.finish();
    }

    private static void luck(SpireLean x, int v, int c, int n, long upper, long lower) {
        Due.due("luck(" + v + ", " + c + ", " + n + ", 0)", x.luck(v, c, n, 0), upper);
        Due.due("luck(" + v + ", " + c + ", " + n + ", 1)", x.luck(v, c, n, 1), lower);
    }

    private static void mean(SpireLean x, int v, int n, long upper, long lower) {
        Due.due("mean(" + v + ", " + n + ", 0)", x.mean(v, n, 0), upper);
        Due.due("mean(" + v + ", " + n + ", 1)", x.mean(v, n, 1), lower);
    }

    // 27
    private static void lucks() {
        SpireLean x = Due.told("dock 20 84 0;stiff 0;");
        luck(x, 3, 44, 0, 1, 1);
        luck(x, 3, 54, 0, 0, 1);
        luck(x, 3, 44, 1, 3, 10);
        luck(x, 3, 54, 1, 7, 10);
        luck(x, 3, 54, 2, 21, 50);
        luck(x, 3, 64, 2, 49, 100);
        luck(x, 5, 54, 2, 1, 2);
        luck(x, 0, 84, 8, 1, 1);
        luck(x, 10, 44, 8, 1, 1);
        luck(x, 10, 54, 8, 0, 1);
        luck(x, 1, 44, 8, 1, 100000000);
        luck(x, 7, 44, 8, 5764801, 100000000);
        // four or more of eight: 1 - (1 + 8 + 28 + 56) by 256
        luck(x, 5, 84, 8, 163, 256);
        Due.due("luck(-1, ..)", x.luck(-1, 44, 1, 0), Due.BAD);
        Due.due("luck(11, ..)", x.luck(11, 44, 1, 0), Due.BAD);
        Due.due("luck(1, -1, ..)", x.luck(1, -1, 1, 0), Due.BAD);
        Due.due("luck(1, 100, ..)", x.luck(1, 100, 1, 0), Due.BAD);
        Due.due("luck(1, 1, -1, ..)", x.luck(1, 1, -1, 0), Due.BAD);
        Due.due("luck(1, 1, 9, ..)", x.luck(1, 1, 9, 0), Due.BAD);
        Due.due("luck(.., 2)", x.luck(1, 1, 1, 2), Due.BAD);
        Due.due("luck(.., -1)", x.luck(1, 1, 1, -1), Due.BAD);
    }

    // 28
    private static void means() {
        SpireLean x = Due.told("dock 20 84 0;stiff 0;");
        mean(x, 3, 0, 0, 1);
        mean(x, 3, 1, 7, 10);
        mean(x, 3, 2, 7, 5);
        mean(x, 5, 4, 2, 1);
        mean(x, 0, 8, 4, 1);
        mean(x, 10, 8, 0, 1);
        x.bend(47);
        mean(x, 10, 8, 3, 1);
        mean(x, 4, 0, 3, 1);
        Due.due("mean(-1, ..)", x.mean(-1, 1, 0), Due.BAD);
        Due.due("mean(11, ..)", x.mean(11, 1, 0), Due.BAD);
        Due.due("mean(1, -1, ..)", x.mean(1, -1, 0), Due.BAD);
        Due.due("mean(1, 9, ..)", x.mean(1, 9, 0), Due.BAD);
        Due.due("mean(1, 1, 2)", x.mean(1, 1, 2), Due.BAD);
        Due.due("mean(1, 1, -1)", x.mean(1, 1, -1), Due.BAD);
        // FALLEN behind two moves: it stays there
        x = Due.told("dock 20 84 0;stiff 0;bears 1;");
        luck(x, 5, 64, 8, 247, 256);
        mean(x, 0, 8, 2, 1);
        // back to THE FOOT
        x = new SpireLean();
        x.bend(46);
        mean(x, 5, 1, 3, 2);
        mean(x, 5, 2, 1, 1);
        mean(x, 5, 3, 5, 8);
    }

    // from CELL 0 to CELL 99 and back
    private static void corners() {
        SpireLean x = Due.told("dock 20 99 0;stiff 0;bears 18;foot 99;");
        x.bend(0);
        luck(x, 5, 0, 1, 1, 2);
        luck(x, 5, 10, 1, 1, 2);
        luck(x, 5, 0, 2, 1, 4);
        mean(x, 5, 0, 18, 1);
        mean(x, 5, 1, 35, 2);
        luck(x, 10, 0, 8, 1, 1);
        x.bend(99);
        luck(x, 5, 99, 8, 1, 1);
        luck(x, 5, 0, 8, 0, 1);
    }

    // a draw that begins in YEAR 2 moves it in the third, calm or not before
    private static void yearsGoOnInCalm() {
        SpireLean x = Due.told("dock 20 84 2;stiff 0;");
        luck(x, 9, 44, 2, 1, 1);
        luck(x, 9, 54, 3, 1, 10);
        luck(x, 9, 54, 4, 9, 50);
    }
}
