/**
 * All that an object answers. What no call tells by itself (the CELLS of SHEETS, IMAGES, the bytes on THE TAPE,
 * which are SEEN) is found by using it up, so that the object is of no more use behind this.
 */
final class Look {
    private final SpireLean x;
    private final StringBuilder all = new StringBuilder();
    private int calls = 0;

    private Look(SpireLean x) {
        this.x = x;
    }

    static String through(SpireLean x) {
        int fault = x.fault();
        return "fault " + fault + butTheFault(x);
    }

    /** For a text that is refused: it tells its FAULT and changes nothing else. */
    static String butTheFault(SpireLean x) {
        Look look = new Look(x);
        look.town();
        look.answers();
        look.seen();
        // an IMAGE of an earlier YEAR comes ahead of the SHEETS: in the last one none could be read
        look.images();
        look.sheets();
        look.tape();
        // with what made the object, and a call that was refused, this stays under 512
        if (States.MOST_CALLS + look.calls >= 510) {
            throw new IllegalStateException("a Look of " + look.calls + " calls");
        }
        return look.all.toString();
    }

    private void note(long answer) {
        calls++;
        all.append(answer).append(' ');
    }

    private void town() {
        all.append("\ntown ");
        for (int what = 1; what < 10; what++) {
            note(x.rule(what));
        }
        int draws = x.rule(0);
        note(draws);
        for (int i = 0; i < draws; i++) {
            for (int what = 0; what < 4; what++) {
                note(x.draw(i, what));
            }
        }
    }

    private void answers() {
        all.append("\nanswers ");
        for (int what = 0; what < 6; what++) {
            note(x.count(what));
        }
        note(x.torn());
        for (int what = 0; what < 5; what++) {
            note(x.runs(60, what));
        }
        note(x.falls());
        note(x.comes(44));
        note(x.share(0, 60, 0));
        note(x.turn());
        note(x.need());
        note(x.brace());
        note(x.lure(1, 84));
        note(x.site(3, 7, 22, 0));
        note(x.hush(0));
        note(x.swap(0));
        note(x.kind(2, 9, 1));
        note(x.luck(3, 55, 4, 0));
        note(x.mean(3, 8, 0));
        note(x.drift(5, 20, 0));
    }

    /** From the last that is SEEN to none of them. */
    private void seen() {
        all.append("\nseen ");
        for (int n = x.count(0); n >= 0; n--) {
            note(x.forget(n));
            note(x.kinds(0));
            note(x.pulls(1));
            note(x.spots(2, 0));
            note(x.spots(2, 1));
            note(x.ask(0, 1));
        }
        calls++;
    }

    private void sheets() {
        all.append("\nsheets ");
        for (int k = 0; k < 4; k++) {
            for (int lane = 0; lane < 3; lane++) {
                note(x.read(k, lane, 0, 3));
                note(x.torn());
            }
            note(x.read(k, k % 3, 34, 20));
            note(x.lay(k, 2, 0));
            for (int i = 0; i < 5; i++) {
                note(x.draw(i, 2));
            }
            note(x.rule(3));
        }
    }

    private void images() {
        for (int k = 0; k < 2; k++) {
            all.append("\nimage ");
            note(x.back(k));
            town();
        }
    }

    private void tape() {
        all.append("\ntape ");
        note(x.end(x.count(2)));
        note(x.text());
        note(x.fault());
        calls++;
        town();
    }
}
