/**
 * Objects as the tests of bounds find them. Each is made by at most MOST_CALLS calls, so that a Look through it
 * still stays within the 512 calls for which an object is used.
 */
final class States {
    static final int MOST_CALLS = 225;

    /** Tells all, and has 160 bytes. */
    static final String LONG_TEXT = filled(
            "chimney 1 2 3;market 4 5 6;chapel 7 8 9;dock 10 11 12;dock 13 14 15;foot 16;stiff 17;bears 18;", 160);

    private States() {
    }

    static String filled(String text, int length) {
        return text + " ".repeat(length - text.length());
    }

    /** Nothing there. */
    static SpireLean fresh() {
        return new SpireLean();
    }

    /** Some of all: 3 DRAWS, 2 SEEN, IMAGE 0, three SHEETS, a FAULT of a text and of a read(), a text on THE TAPE. */
    static SpireLean some() {
        SpireLean x = new SpireLean();
        Due.feed(x, "dock 5 84 0;market 9 28 5;chapel 12 60 0;foot 55;stiff 4;");
        x.text();
        x.years(2);
        x.keep(0);
        x.see(1, 75);
        x.see(4, 84);
        x.alter(0, 1, 6);
        x.years(1);
        x.sheet(0, 0, 6);
        lay(x, 0, 0, 33, 2, 71, 1, 9);
        x.sheet(1, 1, 4);
        lay(x, 1, 1, 17, 0, 90);
        x.sheet(2, 2, 3);
        lay(x, 2, 2, 40, 1);
        x.read(1, 0, 0, 1);
        Due.feed(x, "foot 1;foot");
        x.text();
        Due.feed(x, "stiff 7;dock 1 2 3;");
        return x;
    }

    /** All there: 5 DRAWS, 6 SEEN, both IMAGES, four SHEETS of 40 CELLS, 160 bytes on THE TAPE. */
    static SpireLean full() {
        SpireLean x = new SpireLean();
        x.put(3, 5, 84);
        x.put(1, 9, 28);
        x.put(2, 12, 60);
        x.keep(0);
        x.put(0, 20, 0);
        x.put(3, 1, 99);
        x.alter(3, 3, 7);
        x.years(2);
        x.keep(1);
        for (int n = 0; n < 6; n++) {
            x.see(n, x.runs(n, 0));
        }
        for (int k = 0; k < 4; k++) {
            x.sheet(k, k % 3, 40);
            lay(x, k, 4 - k, 11 * k);
        }
        Due.feed(x, LONG_TEXT);
        return x;
    }

    /** Some of all, in the last YEAR. */
    static SpireLean old() {
        SpireLean x = some();
        for (int i = 0; i < 33; i++) {
            x.years(30);
        }
        x.years(6);
        return x;
    }

    static void lay(SpireLean x, int k, int... values) {
        for (int i = 0; i < values.length; i++) {
            x.lay(k, i, values[i]);
        }
    }

    /** The last YEAR, by 34 calls, of an object in YEAR 0. */
    static void toLastYear(SpireLean x) {
        for (int i = 0; i < 33; i++) {
            x.years(30);
        }
        x.years(9);
    }
}
