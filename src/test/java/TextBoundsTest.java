/** Promises 1 to 7 and what the document's "Terms" say of THE TAPE: each bound by itself. */
public final class TextBoundsTest {
    private static final String FIVE = "dock 1 1 1;market 1 1 1;chapel 1 1 1;chimney 1 1 1;dock 1 1 1;";

    public static void main(String[] args) {
        newObjectHasNothing();
        feedTakesBytes();
        feedIsFull();
        endKeepsTheFirst();
        textOfNothing();
        textOf160Bytes();
        placesFrom0();
        theEndIsTheLength();
        tokensAreAsLongAsMayBe();
        blanksBetween();
        numbersOf1Or2Figures();
        tooLongIsNoToken();
        bytesThatAreNoToken();
        tokensThatCanNotStandThere();
        namesThatBeginNoLine();
        numbersOutOfBounds();
        numbersInBounds();
        forTheSecondTime();
        theSixthDraw();
        theFirstMet();
        aTokenIsReadWhenTheOneBeforeIsTaken();
        takenTellsAll();
        refusedStays();
        footTellsThePoint();
        faultOfTheLatest();
        ruleBounds();
        drawBounds();
        Due.finish();
    }

    // 1: "No DRAWS; SHEETS have nothing"
    private static void newObjectHasNothing() {
        SpireLean x = new SpireLean();
        Due.due("DRAWS", x.rule(0), 0);
        for (int what = 0; what < 7; what++) {
            Due.due("draw(0, " + what + ")", x.draw(0, what), Due.BAD);
        }
        int[] counts = {0, 0, 0, Due.NONE, 0, 0};
        for (int what = 0; what < counts.length; what++) {
            Due.due("count(" + what + ")", x.count(what), counts[what]);
        }
        for (int k = 0; k < 4; k++) {
            Due.due("lay(" + k + ", 0, 0)", x.lay(k, 0, 0), -11);
            Due.due("read of SHEET " + k, x.read(k, 0, 0, 1), 0);
            Due.due("torn() of SHEET " + k, x.torn(), 1);
        }
        Due.due("fault()", new SpireLean().fault(), 0);
        Due.due("torn()", new SpireLean().torn(), 0);
        Due.due("end(0)", new SpireLean().end(0), 0);
        Due.due("forget(0)", new SpireLean().forget(0), 0);
        Due.due("keep(0)", new SpireLean().keep(0), 0);
        Due.due("keep(1)", new SpireLean().keep(1), 0);
    }

    // 2: "A byte (0 to 127) comes behind THE TAPE: how many it has. BAD"
    private static void feedTakesBytes() {
        Bounds.of("feed to none", States::fresh, (x, v) -> x.feed(v), 0, 1, 127, 1);
        Bounds.of("feed to some", States::some, (x, v) -> x.feed(v), 0, 20, 127, 20);
        Bounds.of("feed to all", States::full, (x, v) -> x.feed(v), 0, Due.FULL, 127, Due.FULL);
        for (int c = 0; c < 128; c++) {
            Due.due("feed(" + c + ")", new SpireLean().feed(c), 1);
        }
        // the lowest bits of 256 and more would be a byte
        Bounds.refused("feed(256 + 'a')", States::some, x -> x.feed(256 + 'a'), Due.BAD);
    }

    // 2: "FULL: more than 160"
    private static void feedIsFull() {
        SpireLean x = new SpireLean();
        for (int n = 1; n <= 160; n++) {
            Due.due("feed, the " + n + "th", x.feed('a'), n);
        }
        Due.due("feed, the 161st", x.feed('a'), Due.FULL);
        Due.due("count(2)", x.count(2), 160);
        Due.due("end(159)", x.end(159), 160);
        Due.due("feed, the 160th again", x.feed('a'), 160);
        Due.due("feed, the 161st again", x.feed('a'), Due.FULL);
        Due.due("text() empties it", x.text(), -10);
        Due.due("feed, the first", x.feed('a'), 1);
        Bounds.refused("feed, the 161st", States::full, y -> y.feed(';'), Due.FULL);
    }

    // 3: "THE TAPE keeps its first n bytes: how many it had. BAD"
    private static void endKeepsTheFirst() {
        Bounds.of("end of none", States::fresh, (x, v) -> x.end(v), 0, 0, 0, 0);
        Bounds.of("end of some", States::some, (x, v) -> x.end(v), 0, 19, 19, 19);
        Bounds.of("end of all", States::full, (x, v) -> x.end(v), 0, 160, 160, 160);
        SpireLean x = new SpireLean();
        Due.feed(x, "foot 7;stiff 3;");
        x.end(7);
        Due.due("end behind end", x.end(8), Due.BAD);
        Due.due("text() of the first 7", x.text(), 1);
        Due.due("rule(2)", x.rule(2), 7);
        Due.due("rule(8)", x.rule(8), 2);
        Due.due("end behind text()", x.end(1), Due.BAD);
    }

    // 4: nothing there
    private static void textOfNothing() {
        SpireLean x = States.some();
        x.end(0);
        Due.due("text() of an empty TAPE", x.text(), 0);
        Due.due("fault()", x.fault(), 0);
        int[] rules = {0, 0, 44, 44, 0, 0, Due.NONE, 0, 2, 9};
        for (int what = 0; what < rules.length; what++) {
            Due.due("told nothing: rule(" + what + ")", x.rule(what), rules[what]);
        }
        Due.due("nothing is SEEN", x.count(0), 0);
        Due.due("IMAGES are gone", x.count(1), 0);
        Due.due("text() of a blank", Due.told(" ").rule(0), 0);
    }

    // 4: all of it there
    private static void textOf160Bytes() {
        SpireLean x = Due.told(States.LONG_TEXT);
        Due.due("rule(0)", x.rule(0), 5);
        Due.due("draw(4, 3)", x.draw(4, 3), 15);
        Due.due("rule(2)", x.rule(2), 16);
        Due.due("rule(8)", x.rule(8), 17);
        Due.due("rule(9)", x.rule(9), 18);
        // the last byte closes the last line
        String last = "bears 3;";
        x = Due.told(" ".repeat(160 - last.length()) + last);
        Due.due("rule(9)", x.rule(9), 3);
        // a byte that did not come is not read
        x = new SpireLean();
        Due.feed(x, " ".repeat(161 - last.length()) + last);
        Due.due("the 161st byte", x.text(), -170);
        Due.due("fault()", x.fault(), 2);
    }

    // "places from 0"
    private static void placesFrom0() {
        Due.faulty("#", 0, 1);
        Due.faulty(" #", 1, 1);
        Due.faulty(" ".repeat(159) + "#", 159, 1);
        Due.faulty(" ".repeat(159) + ";", 159, 2);
        Due.faulty(";", 0, 2);
    }

    // "or the end: the length"
    private static void theEndIsTheLength() {
        String line = "dock 12 34 56;";
        int[] ends = {4, 5, 6, 7, 8, 9, 10, 11, 12, 13};
        for (int n : ends) {
            Due.faulty(line.substring(0, n), n, 2);
            Due.faulty(line.substring(0, n) + "   ", n + 3, 2);
        }
        Due.faulty("stiff", 5, 2);
        Due.faulty("bears 9", 7, 2);
        Due.faulty("foot 9;chimney", 14, 2);
        Due.faulty(States.filled("foot", 160), 160, 2);
        Due.faulty(States.filled("foot 9", 160), 160, 2);
    }

    // "TOKENS, each as long as may be"
    private static void tokensAreAsLongAsMayBe() {
        Due.faulty("footstiff 1;", 0, 2);
        Due.faulty("docka 1 1 1;", 0, 2);
        Due.faulty("dock 1 1 1;foo t 1;", 11, 2);
        SpireLean x = Due.told("dock1 2 3;foot4;stiff5;bears6;");
        Due.due("draw(0, 1)", x.draw(0, 1), 1);
        Due.due("rule(2)", x.rule(2), 4);
        Due.due("rule(8)", x.rule(8), 5);
        Due.due("rule(9)", x.rule(9), 6);
        // 12 is no 1 and 2
        Due.faulty("dock 12 3;", 9, 2);
        Due.faulty("foot 1foot 2;", 6, 2);
    }

    // "blanks (32) between"
    private static void blanksBetween() {
        Due.told("   dock   1   1   1   ;   foot   1   ;   ");
        Due.told("dock 1 1 1;foot 1;");
        for (int c = 0; c < 32; c++) {
            Due.faulty("foot" + (char) c + "1;", 4, 1);
        }
        Due.faulty("foot!1;", 4, 1);
        Due.faulty("fo ot 1;", 0, 2);
        Due.faulty("dock 1 2 3 4;", 11, 2);
    }

    // "NUMBERS (1 or 2 figures)"
    private static void numbersOf1Or2Figures() {
        String[] texts = {"foot 0;", "foot 9;", "foot 00;", "foot 09;", "foot 10;", "foot 99;"};
        int[] feet = {0, 9, 0, 9, 10, 99};
        for (int i = 0; i < feet.length; i++) {
            Due.due(texts[i], Due.told(texts[i]).rule(2), feet[i]);
        }
        Due.due("PULL 01", Due.told("dock 01 00 00;").draw(0, 1), 1);
        Due.faulty("dock 00 1 1;", 5, 3);
    }

    // "1 ... a NUMBER that is too long (its first byte)"
    private static void tooLongIsNoToken() {
        Due.faulty("foot 000;", 5, 1);
        Due.faulty("foot 100;", 5, 1);
        Due.faulty("foot 001;", 5, 1);
        Due.faulty("dock 001 1 1;", 5, 1);
        Due.faulty("dock 1 100 1;", 7, 1);
        Due.faulty("dock 1 1 060;", 9, 1);
        Due.faulty("stiff 002;", 6, 1);
        Due.faulty("bears 009;", 6, 1);
        Due.faulty("foot " + "7".repeat(155), 5, 1);
        // more figures than an int or a long can hold
        Due.faulty("foot 4294967297;", 5, 1);
        Due.faulty("foot 18446744073709551617;", 5, 1);
        // where no NUMBER could stand, too: it is no TOKEN ahead of that
        Due.faulty("123 foot;", 0, 1);
        Due.faulty("foot 1 123", 7, 1);
        Due.faulty("foot 1;123", 7, 1);
        Due.faulty("12 foot;", 0, 2);
    }

    // "1 no TOKEN"
    private static void bytesThatAreNoToken() {
        for (int c = 0; c < 128; c++) {
            boolean some = c == ' ' || c == ';' || c >= '0' && c <= '9' || c >= 'a' && c <= 'z';
            if (!some) {
                Due.faulty((char) c + "foot 1;", 0, 1);
                Due.faulty("foot 1" + (char) c, 6, 1);
            }
        }
        Due.faulty("foot 1;  foot" + (char) 127, 9, 4);
        Due.faulty("FOOT 1;", 0, 1);
        Due.faulty("fooT 1;", 0, 2);
        Due.faulty("foot -1;", 5, 1);
        Due.faulty("foot +1;", 5, 1);
        Due.faulty("foot 1.", 6, 1);
    }

    // "2 a TOKEN that can not stand there"
    private static void tokensThatCanNotStandThere() {
        // a NAME, a NUMBER, a ; in place of each TOKEN of a line
        Due.faulty("1 1 1 1;", 0, 2);
        Due.faulty("; 1 1 1;", 0, 2);
        Due.faulty("dock dock 1 1;", 5, 2);
        Due.faulty("dock ; 1 1;", 5, 2);
        Due.faulty("dock 1 dock 1;", 7, 2);
        Due.faulty("dock 1 ; 1;", 7, 2);
        Due.faulty("dock 1 1 dock;", 9, 2);
        Due.faulty("dock 1 1 ; ;", 9, 2);
        Due.faulty("dock 1 1 1 dock", 11, 2);
        Due.faulty("dock 1 1 1 1", 11, 2);
        Due.faulty("foot foot;", 5, 2);
        Due.faulty("foot ;", 5, 2);
        Due.faulty("foot 1 foot", 7, 2);
        Due.faulty("foot 1 1", 7, 2);
        Due.faulty("stiff;", 5, 2);
        Due.faulty("bears 1 bears", 8, 2);
        Due.faulty("foot 1;;", 7, 2);
        Due.faulty("foot 1; 2", 8, 2);
    }

    // "(a NAME that begins no line"
    private static void namesThatBeginNoLine() {
        String[] names = {"bishop", "a", "z", "chimne", "chimneys", "marke", "marketa", "chape", "chapels", "doc",
            "docks", "foo", "foots", "stif", "stiffs", "bear", "bearss", "himney", "pull", "k", "n"};
        for (String name : names) {
            Due.faulty(name, 0, 2);
            Due.faulty("foot 1; " + name + " 1 1 1;", 8, 2);
        }
        Due.faulty("a".repeat(160), 0, 2);
    }

    // "3 a NUMBER out of its bounds", the first that is refused
    private static void numbersOutOfBounds() {
        for (String kind : new String[] {"dock", "market", "chapel", "chimney"}) {
            int n = kind.length() + 1;
            Due.faulty(kind + " 0 0 0;", n, 3);
            Due.faulty(kind + " 21 0 0;", n, 3);
            Due.faulty(kind + " 99 0 0;", n, 3);
            Due.faulty(kind + " 1 0 61;", n + 4, 3);
            Due.faulty(kind + " 1 0 99;", n + 4, 3);
        }
        Due.faulty("stiff 21;", 6, 3);
        Due.faulty("stiff 99;", 6, 3);
        Due.faulty("bears 19;", 6, 3);
        Due.faulty("bears 99;", 6, 3);
    }

    // ... and the last that is taken
    private static void numbersInBounds() {
        for (String kind : new String[] {"dock", "market", "chapel", "chimney"}) {
            int[][] rows = {{1, 0, 0}, {20, 99, 60}};
            for (int[] row : rows) {
                SpireLean x = Due.told(kind + " " + row[0] + " " + row[1] + " " + row[2] + ";");
                Due.due(kind + ": PULL", x.draw(0, 1), row[0]);
                Due.due(kind + ": AT", x.draw(0, 2), row[1]);
                Due.due(kind + ": SINCE", x.draw(0, 3), row[2]);
            }
        }
        Due.due("foot 0", Due.told("foot 0;").rule(2), 0);
        Due.due("foot 99", Due.told("foot 99;").rule(2), 99);
        Due.due("stiff 0", Due.told("stiff 0;").rule(8), 0);
        Due.due("stiff 20", Due.told("stiff 20;").rule(8), 20);
        Due.due("bears 0", Due.told("bears 0;").rule(9), 0);
        Due.due("bears 18", Due.told("bears 18;").rule(9), 18);
    }

    // "4 foot, stiff, bears for the second time (its NAME)"
    private static void forTheSecondTime() {
        Due.told("foot 1;stiff 1;bears 1;");
        Due.faulty("foot 1;foot 1;", 7, 4);
        Due.faulty("stiff 1; stiff 1;", 9, 4);
        Due.faulty("bears 1;  bears 1;", 10, 4);
        Due.faulty("foot 1;stiff 1;bears 1;foot 1;", 23, 4);
        Due.faulty("foot 1;stiff 1;bears 1;stiff 1;", 23, 4);
        Due.faulty("foot 1;stiff 1;bears 1;bears 1;", 23, 4);
        Due.faulty(FIVE + "foot 1;foot 1;", FIVE.length() + 7, 4);
        // KINDS may come again
        Due.told("dock 1 1 1;dock 1 1 1;foot 1;dock 1 1 1;");
        // and so may each in the next text
        SpireLean x = Due.told("foot 1;stiff 1;bears 1;");
        Due.feed(x, "foot 2;stiff 2;bears 2;");
        Due.due("the next text", x.text(), 3);
        Due.feed(x, "foot 3;foot");
        Due.due("a text that is refused", x.text(), -17);
        Due.feed(x, "foot 3;");
        Due.due("the text behind it", x.text(), 1);
    }

    // "5 the 6th DRAW (its NAME)"
    private static void theSixthDraw() {
        Due.due("5 DRAWS", Due.told(FIVE).rule(0), 5);
        Due.due("5 DRAWS and more", Due.told(FIVE + "foot 1;stiff 1;bears 1;").rule(0), 5);
        for (String kind : new String[] {"dock", "market", "chapel", "chimney"}) {
            Due.faulty(FIVE + kind + " 1 1 1;", FIVE.length(), 5);
            Due.faulty(FIVE + "  " + kind, FIVE.length() + 2, 5);
        }
        // the DRAWS that there are do not count: the text is in place of them
        SpireLean x = Due.told(FIVE);
        Due.feed(x, FIVE);
        Due.due("5 DRAWS in place of 5", x.text(), 5);
        Due.due("rule(0)", x.rule(0), 5);
    }

    // "FAULTS, the first met as it is read"
    private static void theFirstMet() {
        Due.faulty("dock 0 0 61;", 5, 3);
        Due.faulty("dock 1 100 61;", 7, 1);
        Due.faulty("dock 21 100 61;", 5, 3);
        Due.faulty("stiff 21 bears", 6, 3);
        Due.faulty("stiff 21", 6, 3);
        Due.faulty("foot 1;foot 100;", 7, 4);
        Due.faulty("stiff 1;stiff 21;", 8, 4);
        Due.faulty(FIVE + "dock 0 1 1;", FIVE.length(), 5);
        Due.faulty(FIVE + "rock 0 1 1;", FIVE.length(), 2);
        Due.faulty("foot 1 foot 1;", 7, 2);
        Due.faulty("dock 1 1 1 foot 1;foot 1;", 11, 2);
    }

    // "(a TOKEN is read when the one before has been taken)"
    private static void aTokenIsReadWhenTheOneBeforeIsTaken() {
        Due.faulty("bishop#", 0, 2);
        Due.faulty("stiff 21#", 6, 3);
        Due.faulty("dock 0#", 5, 3);
        Due.faulty("foot 1;foot#", 7, 4);
        Due.faulty("foot 1;foot 111", 7, 4);
        Due.faulty(FIVE + "dock#", FIVE.length(), 5);
        Due.faulty("foot#", 4, 1);
        Due.faulty("foot 1#", 6, 1);
        Due.faulty("foot 1;#", 7, 1);
        Due.faulty("foot 1 foot#", 7, 2);
    }

    // "A text that is taken tells all, in place of what there was; nothing is SEEN; IMAGES are gone"
    private static void takenTellsAll() {
        SpireLean x = States.full();
        x.stiff(20);
        x.bears(0);
        Due.due("text()", x.text(), 8);
        Due.due("bears 18", x.rule(9), 18);
        Due.due("THE TAPE is empty", x.count(2), 0);
        Due.due("nothing is SEEN", x.count(0), 0);
        Due.due("IMAGES are gone", x.count(1), 0);
        Due.due("back(0)", x.back(0), Due.STATE);
        Due.due("back(1)", x.back(1), Due.STATE);
        Due.due("keep(0)", x.keep(0), 0);
        Due.due("keep(1)", x.keep(1), 0);
        Due.due("SHEETS stay", x.count(3), 40);
        x = States.old();
        x.stiff(20);
        x.bears(0);
        Due.due("text()", x.text(), 2);
        int[] rules = {1, 0, 44, 44, 0, 0, Due.NONE, 0, 7, 9};
        for (int what = 0; what < rules.length; what++) {
            Due.due("what is not told is as at first: rule(" + what + ")", x.rule(what), rules[what]);
        }
        Due.due("the FAULT of a read() stays", x.torn(), 3);
        Due.due("SHEETS stay: read(1, 1, 2, 1)", x.read(1, 1, 2, 1), 1);
        Due.due("SHEETS stay: draw(0, 2)", x.draw(0, 2), 90);
    }

    // 4: "-10 less the place of its FAULT: that which was told stays", "(empty then)"
    private static void refusedStays() {
        String[] texts = {"foot 1;dock 2 2 2;#", "foot 1;dock 2 2 2;dock", "foot 1;stiff 21;", "bears 1;bears",
            FIVE + "dock 1 1 1;", ";", "foot 100;"};
        int[] places = {18, 22, 13, 8, FIVE.length(), 0, 5};
        int[] faults = {1, 2, 3, 4, 5, 2, 1};
        for (int i = 0; i < texts.length; i++) {
            SpireLean x = States.some();
            x.end(0);
            Due.feed(x, texts[i]);
            Due.due("text() of " + texts[i], x.text(), -10 - places[i]);
            Due.due("fault() of " + texts[i], x.fault(), faults[i]);
            Due.due("THE TAPE is empty", x.count(2), 0);
            SpireLean twin = States.some();
            twin.end(0);
            Due.due(texts[i] + " changes nothing else", Look.butTheFault(x).equals(Look.butTheFault(twin)) ? 1 : 0, 1);
        }
    }

    // "foot: THE FOOT (THE POINT is there, too)"
    private static void footTellsThePoint() {
        SpireLean x = Due.told("foot 0;");
        Due.due("THE POINT", x.rule(3), 0);
        x = Due.told("dock 1 1 1;foot 99;");
        Due.due("THE POINT", x.rule(3), 99);
        x.bend(0);
        Due.feed(x, "dock 1 1 1;");
        x.text();
        Due.due("no foot: THE FOOT", x.rule(2), 44);
        Due.due("no foot: THE POINT", x.rule(3), 44);
    }

    // 5: "The FAULT of the latest text(); 0"
    private static void faultOfTheLatest() {
        SpireLean x = new SpireLean();
        String[] texts = {"#", ";", "stiff 21;", "foot 1;foot", FIVE + "dock", "", ";", "foot 1;"};
        int[] faults = {1, 2, 3, 4, 5, 0, 2, 0};
        Due.due("fault() at first", x.fault(), 0);
        for (int i = 0; i < texts.length; i++) {
            int before = x.fault();
            Due.feed(x, texts[i]);
            Due.due("fault() ahead of text()", x.fault(), before);
            x.text();
            Due.due("fault() of '" + texts[i] + "'", x.fault(), faults[i]);
            Due.due("fault() again", x.fault(), faults[i]);
        }
        x = States.some();
        x.back(0);
        x.keep(1);
        x.years(1);
        x.read(0, 1, 0, 1);
        Due.due("fault() behind other calls", x.fault(), 4);
    }

    // 6: "BAD"
    private static void ruleBounds() {
        Bounds.of("rule of none", States::fresh, (x, v) -> x.rule(v), 0, 0, 9, 9);
        Bounds.of("rule of some", States::some, (x, v) -> x.rule(v), 0, 3, 9, 9);
        Bounds.of("rule of all", States::full, (x, v) -> x.rule(v), 0, 5, 9, 9);
        Due.due("rule(1) in the last YEAR", States.old().rule(1), 999);
        // "6 which DRAW HAS it now (NONE: none; FALLEN)"
        Due.due("none: no DRAWS", new SpireLean().rule(6), Due.NONE);
        SpireLean x = Due.told("dock 20 49 0;dock 20 99 0;bears 1;");
        Due.due("HAS it", x.rule(6), 0);
        x.bend(45);
        Due.due("LEAN 1", x.rule(5), 0);
        Due.due("HAS it", x.rule(6), 0);
        x.bend(46);
        Due.due("LEAN 2", x.rule(5), 1);
        Due.due("FALLEN", x.rule(6), Due.NONE);
        x = Due.told(FIVE);
        x.years(1);
        x.alter(4, 1, 20);
        Due.due("the last HAS it", x.rule(6), 4);
    }

    // 7: "BAD"
    private static void drawBounds() {
        Bounds.outside("draw(i, 0) of none", States::fresh, (x, v) -> x.draw(v, 0), 0, -1);
        Bounds.of("draw(i, 2) of some", States::some, (x, v) -> x.draw(v, 2), 0, 84, 2, 60);
        Bounds.of("draw(i, 2) of all", States::full, (x, v) -> x.draw(v, 2), 0, 84, 4, 99);
        Bounds.of("draw(1, what)", States::some, (x, v) -> x.draw(1, v), 0, 1, 6, 9);
        Bounds.of("draw(4, what)", States::full, (x, v) -> x.draw(4, v), 0, 3, 6, 8);
        SpireLean x = States.full();
        x.raze(2);
        Due.due("draw(1, 2)", x.draw(1, 2), 28);
        Due.due("draw(2, 2), razed", x.draw(2, 2), Due.BAD);
    }
}
