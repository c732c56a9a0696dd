/** Promise 35: drift. */
public final class DriftTest {
    public static void main(String[] args) {
        SpireLean x = new SpireLean();
        Due.due("drift, no DRAWS", x.drift(1, 1, 0), Due.STATE);
        Due.due("drift, no DRAWS, wrong", x.drift(1, 0, 0), Due.BAD);
        Due.due("drift, no DRAWS, wrong", x.drift(1, 1, 2), Due.BAD);
        x = Due.told("dock 20 84 0;stiff 0;");
        // 1 becomes 1103527590, of which 16838 is got: CELL 2104 modulo 100; then 377401575 more: 5758, 719
        Due.due("drift(1, 1, 0)", x.drift(1, 1, 0), 34);
        Due.due("drift(1, 1, 1)", x.drift(1, 1, 1), 1);
        Due.due("drift(1, 2, 0)", x.drift(1, 2, 0), second());
        Due.due("drift(1, 0, 0)", x.drift(1, 0, 0), Due.BAD);
        Due.due("drift(1, 61, 0)", x.drift(1, 61, 0), Due.BAD);
        Due.due("drift(1, 1, 2)", x.drift(1, 1, 2), Due.BAD);
        Due.due("drift(1, 1, -1)", x.drift(1, 1, -1), Due.BAD);
        Due.due("draw(0, 2) behind drift", x.draw(0, 2), 84);
        Due.due("rule(1) behind drift", x.rule(1), 0);
        Due.due("rule(3) behind drift", x.rule(3), 44);
        againstModel();
        Due.finish();
    }

    private static int second() {
        int seed = 1103527590 * 1103515245 + 12345;
        int cell = (seed >> 16 & 32767) / 8 % 100;
        SpireLean x = Due.told("dock 20 4 0;stiff 0;");
        x.years(1);
        x.alter(0, 2, cell);
        return x.years(1);
    }

    private static void againstModel() {
        int[] seeds = {0, 1, -1, 7, 12345, Integer.MIN_VALUE, Integer.MAX_VALUE, 305419896};
        Model m = new Model();
        for (char c : Due.TOWN.toCharArray()) {
            m.feed(c);
        }
        m.text();
        for (int seed : seeds) {
            SpireLean x = Due.told(Due.TOWN);
            for (int n = 1; n <= 60; n++) {
                Due.due("drift(" + seed + ", " + n + ", 0)", x.drift(seed, n, 0), m.drift(seed, n, 0));
                Due.due("drift(" + seed + ", " + n + ", 1)", x.drift(seed, n, 1), m.drift(seed, n, 1));
            }
        }
    }
}
