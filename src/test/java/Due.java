/** What the tests share: an answer held against the one that is due, and the telling of a text. */
final class Due {
    static final int BAD = SpireLean.BAD, STATE = SpireLean.STATE, FULL = SpireLean.FULL, NONE = SpireLean.NONE;

    /** The town that most tests begin with. */
    static final String TOWN =
            "chimney 9 72 0;market 15 28 5;chapel 12 60 0;dock 3 99 20;foot 55;stiff 4;bears 7;";

    private static int asked = 0;
    private static int wrong = 0;

    private Due() {
    }

    static void due(String call, long got, long want) {
        asked++;
        if (got != want) {
            wrong++;
            System.out.println(call + " answered " + got + ", due is " + want);
        }
    }

    static void finish() {
        System.out.println(asked + " answers, " + wrong + " not as due");
        if (wrong != 0 || asked == 0) {
            System.exit(1);
        }
    }

    static void feed(SpireLean x, String text) {
        for (int i = 0; i < text.length(); i++) {
            x.feed(text.charAt(i));
        }
    }

    /** A new object to which a text that has no fault was told. */
    static SpireLean told(String text) {
        SpireLean x = new SpireLean();
        feed(x, text);
        int lines = (int) text.chars().filter(c -> c == ';').count();
        due("text() of " + text, x.text(), lines);
        return x;
    }

    /** A text that has a fault: its place and its number. */
    static void faulty(String text, int place, int fault) {
        SpireLean x = told("dock 1 2 3;");
        feed(x, text);
        due("text() of '" + text + "'", x.text(), -10 - place);
        due("fault() of '" + text + "'", x.fault(), fault);
        due("rule(0) behind '" + text + "'", x.rule(0), 1);
        due("draw(0, 2) behind '" + text + "'", x.draw(0, 2), 2);
        due("count(2) behind '" + text + "'", x.count(2), 0);
    }
}
