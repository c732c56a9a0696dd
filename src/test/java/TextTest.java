/** Promises 1 to 5: a new object, feed, end, text, fault. */
public final class TextTest {
    public static void main(String[] args) {
        newObject();
        feedAndEnd();
        takenTexts();
        takenTellsAll();
        blanks();
        noToken();
        misplaced();
        outOfBounds();
        twice();
        tooManyDraws();
        firstMet();
        longTexts();
        Due.finish();
    }

    // 1
    private static void newObject() {
        SpireLean x = new SpireLean();
        int[] rules = {0, 0, 44, 44, 0, 0, Due.NONE, 0, 2, 9};
        for (int what = 0; what < rules.length; what++) {
            Due.due("new: rule(" + what + ")", x.rule(what), rules[what]);
        }
        int[] counts = {0, 0, 0, Due.NONE, 0, 0};
        for (int what = 0; what < counts.length; what++) {
            Due.due("new: count(" + what + ")", x.count(what), counts[what]);
        }
        for (int k = 0; k < 4; k++) {
            Due.due("new: lay(" + k + ", 0, 0)", x.lay(k, 0, 0), -11);
        }
        Due.due("new: fault()", x.fault(), 0);
        Due.due("new: torn()", x.torn(), 0);
        Due.due("new: draw(0, 0)", x.draw(0, 0), Due.BAD);
        Due.due("new: back(0)", x.back(0), Due.STATE);
        Due.due("new: back(1)", x.back(1), Due.STATE);
    }

    // 2, 3
    private static void feedAndEnd() {
        SpireLean x = new SpireLean();
        Due.due("feed(-1)", x.feed(-1), Due.BAD);
        Due.due("feed(128)", x.feed(128), Due.BAD);
        Due.due("feed(0)", x.feed(0), 1);
        Due.due("feed(127)", x.feed(127), 2);
        Due.due("count(2)", x.count(2), 2);
        Due.due("end(3)", x.end(3), Due.BAD);
        Due.due("end(-1)", x.end(-1), Due.BAD);
        Due.due("end(1)", x.end(1), 2);
        Due.due("end(1)", x.end(1), 1);
        Due.due("end(0)", x.end(0), 1);
        Due.due("end(0)", x.end(0), 0);
        for (int n = 1; n <= 160; n++) {
            Due.due("feed ' '", x.feed(' '), n);
        }
        Due.due("feed, the 161st", x.feed(' '), Due.FULL);
        Due.due("feed(128), the 161st", x.feed(128), Due.BAD);
        Due.due("end(161)", x.end(161), Due.BAD);
        Due.due("count(2)", x.count(2), 160);
        Due.due("end(160)", x.end(160), 160);
        Due.due("end(159)", x.end(159), 160);
        Due.due("feed", x.feed(' '), 160);
        Due.due("text of blanks", x.text(), 0);
        Due.due("count(2)", x.count(2), 0);
        Due.due("feed", x.feed('f'), 1);
        Due.due("end keeps the first", x.end(1), 1);
        Due.feed(x, "oot 7;stiff 3;");
        Due.due("end(7)", x.end(7), 15);
        Due.due("text", x.text(), 1);
        Due.due("rule(2)", x.rule(2), 7);
        Due.due("rule(8)", x.rule(8), 2);
    }

    // 4
    private static void takenTexts() {
        SpireLean x = Due.told("chimney 1 0 0;market 20 99 60;chapel 7 8 9;dock 10 11 12;stiff 20;bears 18;foot 90;");
        int[][] draws = {{0, 1, 0, 0}, {1, 20, 99, 60}, {2, 7, 8, 9}, {3, 10, 11, 12}};
        for (int i = 0; i < draws.length; i++) {
            for (int what = 0; what < 4; what++) {
                Due.due("draw(" + i + ", " + what + ")", x.draw(i, what), draws[i][what]);
            }
        }
        Due.due("rule(0)", x.rule(0), 4);
        Due.due("rule(2)", x.rule(2), 90);
        Due.due("rule(3)", x.rule(3), 90);
        Due.due("rule(8)", x.rule(8), 20);
        Due.due("rule(9)", x.rule(9), 18);
        x = Due.told("foot 00;stiff 0;bears 00;dock 01 05 09;");
        Due.due("rule(2)", x.rule(2), 0);
        Due.due("rule(8)", x.rule(8), 0);
        Due.due("rule(9)", x.rule(9), 0);
        Due.due("draw(0, 3)", x.draw(0, 3), 9);
        x = Due.told("dock 1 1 1;dock 1 1 1;dock 1 1 1;dock 1 1 1;dock 1 1 1;");
        Due.due("rule(0)", x.rule(0), 5);
    }

    // 4: what was there is gone
    private static void takenTellsAll() {
        SpireLean x = Due.told(Due.TOWN);
        x.years(9);
        x.see(1, 1);
        x.keep(0);
        x.keep(1);
        x.sheet(0, 0, 7);
        x.runs(60, 0);
        x.read(0, 0, 0, 3);
        Due.feed(x, "market 2 3 4;");
        Due.due("text()", x.text(), 1);
        int[] rules = {1, 0, 44, 44, 0, 0, Due.NONE, 0, 2, 9};
        for (int what = 0; what < rules.length; what++) {
            Due.due("told anew: rule(" + what + ")", x.rule(what), rules[what]);
        }
        Due.due("nothing is SEEN", x.count(0), 0);
        Due.due("IMAGES are gone", x.count(1), 0);
        Due.due("back(0)", x.back(0), Due.STATE);
        Due.due("SHEETS stay", x.count(3), 7);
        x.years(3);
        Due.due("an empty text", x.text(), 0);
        Due.due("rule(0)", x.rule(0), 0);
        Due.due("rule(1)", x.rule(1), 0);

        // a text that is refused leaves all but THE TAPE
        x = Due.told(Due.TOWN);
        x.years(2);
        x.see(1, 1);
        x.keep(1);
        Due.feed(x, "foot 1;dock 2 2 2;dock 0 1 1;");
        Due.due("text()", x.text(), -10 - 23);
        Due.due("fault()", x.fault(), 3);
        Due.due("rule(0)", x.rule(0), 4);
        Due.due("rule(1)", x.rule(1), 2);
        Due.due("rule(2)", x.rule(2), 55);
        Due.due("count(0)", x.count(0), 1);
        Due.due("count(1)", x.count(1), 1);
        Due.due("count(2)", x.count(2), 0);
        // 5: the latest alone
        Due.due("text()", x.text(), 0);
        Due.due("fault()", x.fault(), 0);
    }

    private static void blanks() {
        Due.told("  foot   7  ;   ");
        SpireLean x = Due.told("dock3 9 0;foot7;market 1 2 3 ;bears9;");
        Due.due("draw(0, 1)", x.draw(0, 1), 3);
        Due.due("rule(2)", x.rule(2), 7);
        Due.due("draw(1, 3)", x.draw(1, 3), 3);
        Due.due("rule(9)", x.rule(9), 9);
    }

    // 4, 5: FAULT 1
    private static void noToken() {
        Due.faulty("Foot 1;", 0, 1);
        Due.faulty("foot 1,", 6, 1);
        Due.faulty("foot\t1;", 4, 1);
        Due.faulty("foot -1;", 5, 1);
        Due.faulty("foot 1;\n", 7, 1);
        Due.faulty("`", 0, 1);
        Due.faulty("{", 0, 1);
        Due.faulty("/", 0, 1);
        Due.faulty(":", 0, 1);
        Due.faulty("\0", 0, 1);
        Due.faulty("\u007f", 0, 1);
        Due.faulty("foot 100;", 5, 1);
        Due.faulty("foot 001;", 5, 1);
        Due.faulty("100;", 0, 1);
        Due.faulty("foot 1 123;", 7, 1);
        Due.faulty("dock 1 2 3 4444444444444444;", 11, 1);
    }

    // 4, 5: FAULT 2
    private static void misplaced() {
        Due.faulty("bishop 1 1 1;", 0, 2);
        Due.faulty(" docks 1 1 1;", 1, 2);
        Due.faulty("doc 1 1 1;", 0, 2);
        Due.faulty("rock 1 1 1;", 0, 2);
        Due.faulty("doci 1 1 1;", 0, 2);
        Due.faulty("z", 0, 2);
        Due.faulty("a", 0, 2);
        Due.faulty("dockfoot 1;", 0, 2);
        Due.faulty("9 foot;", 0, 2);
        Due.faulty(";", 0, 2);
        Due.faulty("foot 1;;", 7, 2);
        Due.faulty("foot;", 4, 2);
        Due.faulty("foot foot;", 5, 2);
        Due.faulty("foot 1 2;", 7, 2);
        Due.faulty("foot 1 dock 1 1 1;", 7, 2);
        Due.faulty("dock 1 1;", 8, 2);
        Due.faulty("dock 1 1 1 1;", 11, 2);
        Due.faulty("dock 1 dock 1;", 7, 2);
        // the end: the length
        Due.faulty("foot", 4, 2);
        Due.faulty("foot ", 5, 2);
        Due.faulty("foot 1", 6, 2);
        Due.faulty("foot 1   ", 9, 2);
        Due.faulty("dock 1 1 1", 10, 2);
        Due.faulty("foot 1;dock", 11, 2);
    }

    // 4, 5: FAULT 3
    private static void outOfBounds() {
        Due.faulty("dock 0 1 1;", 5, 3);
        Due.faulty("dock 21 1 1;", 5, 3);
        Due.faulty("dock 20 1 61;", 10, 3);
        Due.faulty("stiff 21;", 6, 3);
        Due.faulty("bears 19;", 6, 3);
        Due.told("dock 20 99 60;stiff 20;bears 18;foot 99;");
    }

    // 4, 5: FAULT 4
    private static void twice() {
        Due.faulty("foot 1;foot 1;", 7, 4);
        Due.faulty("stiff 1;dock 1 1 1;  stiff 1;", 21, 4);
        Due.faulty("bears 1;foot 2;bears", 15, 4);
        Due.faulty("foot 1;foot#", 7, 4);
    }

    // 4, 5: FAULT 5
    private static void tooManyDraws() {
        String five = "dock 1 1 1;market 1 1 1;chapel 1 1 1;chimney 1 1 1;dock 1 1 1;";
        Due.told(five + "foot 1;");
        Due.faulty(five + " dock 0 1 1;", five.length() + 1, 5);
        Due.faulty(five + "chimney", five.length(), 5);
        Due.faulty(five + "chimney#", five.length(), 5);
        Due.faulty(five + "bishop 1 1 1;", five.length(), 2);
    }

    private static void firstMet() {
        Due.faulty("dock 0 100 1;", 5, 3);
        Due.faulty("dock 1 100 61;", 7, 1);
        Due.faulty("dock 0#", 5, 3);
        Due.faulty("bishop#", 0, 2);
        Due.faulty("bears 19 foot", 6, 3);
        Due.faulty("foot 1 ; 100", 9, 1);
    }

    private static void longTexts() {
        String line = "chimney 10 10 10;";
        StringBuilder text = new StringBuilder();
        for (int i = 0; i < 5; i++) {
            text.append(line);
        }
        text.append("foot 1;stiff 2;bears 3;");
        while (text.length() < 160) {
            text.append(' ');
        }
        SpireLean x = Due.told(text.toString());
        Due.due("rule(9)", x.rule(9), 3);
        x = new SpireLean();
        Due.feed(x, "a".repeat(160));
        Due.due("a name of 160 letters", x.text(), -10);
        Due.due("fault()", x.fault(), 2);
        Due.feed(x, "foot " + "7".repeat(155));
        Due.due("a number of 155 figures", x.text(), -15);
        Due.due("fault()", x.fault(), 1);
        x = new SpireLean();
        Due.feed(x, "foot 7" + " ".repeat(154));
        Due.due("the end behind 160 bytes", x.text(), -170);
        Due.due("fault()", x.fault(), 2);
    }
}
