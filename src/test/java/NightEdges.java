/** NIGHTS at their limits: promises 12 to 18. */
final class NightEdges {
    private static final int[] FAR = {Integer.MIN_VALUE, Integer.MAX_VALUE};
    private static final String KINGS = "board 4 by 2;piece k king leap 1 0;white k at 0 0;black k at 3 1;";
    private static final String MEETING = "board 2 by 1;piece k king leap 1 0;white k at 0 0;black k at 1 0;";

    private final Check check;

    NightEdges(Check check) {
        this.check = check;
    }

    void run() {
        bothBegin();
        numbers();
        heardOrLost();
        nightRefused();
        nightRefusedWhenLost();
        sixtyNights();
        sixtyBlanks();
        blanks();
        undoNone();
        undoAll();
        redoNone();
        redoOrder();
        tillAnother();
        books();
        booksRefused();
        differs();
        sinces();
        sinceUndone();
    }

    /** 60 NIGHTS: every third is blank, else the kings step on and back. */
    static void sixty(StraitGame x) {
        Check.put(x, KINGS);
        x.game();
        for (int n = 0; n < 60; n++) {
            int step = (n - n / 3) % 4;
            if (n % 3 == 2) {
                x.blank();
            } else {
                x.night(step % 2, step == 3 ? 1 : 0, true);
            }
        }
    }

    private static void three(StraitGame x) {
        Check.put(x, KINGS);
        x.game();
        x.night(0, 0, true);
        x.blank();
        x.night(1, 0, false);
    }

    private void bothBegin() {
        check.says(0, "each have a BOARD, a POSITION (both as told at first)");
        StraitGame x = Check.play(KINGS);
        for (int keeper = 0; keeper < 2; keeper++) {
            check.due("turn", x.turn(keeper), 0);
            check.due("at 0", x.at(keeper, 0), 0);
            check.due("at 7", x.at(keeper, 7), 1);
        }
    }

    private void numbers() {
        check.says(12, "A NIGHT: a keeper MOVES, it is heard, or not: the NIGHT's number");
        StraitGame x = Check.play(KINGS);
        check.due("night(0, 0, true): the first MOVE", x.night(0, 0, true), 0);
        check.due("at(0, 1)", x.at(0, 1), 0);
        check.due("at(1, 1)", x.at(1, 1), 0);
        check.due("night(1, 1, false): the last MOVE", x.night(1, 1, false), 1);
        check.due("at(1, 6)", x.at(1, 6), 1);
        check.due("at(0, 7)", x.at(0, 7), 1);
    }

    private void heardOrLost() {
        check.says(0, "Heard, the other one makes the MOVE of that number on his BOARD, if the SIDE to move there is the flasher's, and there is such a MOVE");
        StraitGame x = Check.play(KINGS);
        x.night(0, 1, true);
        check.due("at(1, 4)", x.at(1, 4), 0);
        check.due("at(1, 0)", x.at(1, 0), -1);
        check.due("turn(1)", x.turn(1), 1);
        check.due("book(0, 3)", x.book(0, 3), 0);
        StraitGame y = Check.play(KINGS);
        y.night(0, 1, false);
        check.due("at(0, 4)", y.at(0, 4), 0);
        check.due("at(1, 4)", y.at(1, 4), -1);
        check.due("at(1, 0)", y.at(1, 0), 0);
        check.due("turn(1)", y.turn(1), 0);
        check.due("book(0, 3)", y.book(0, 3), 0);
        check.due("about(9)", y.about(9), 0);
    }

    private void nightRefused() {
        check.says(12, "NONE, doing nothing, if one can't be, it is not his turn, or 60 were.");
        StraitGame x = Check.play(KINGS);
        int[][] wrong = {{-1, 0}, {2, 0}, {FAR[0], 0}, {FAR[1], 0}, {0, -1}, {0, 2}, {0, FAR[0]}, {0, FAR[1]}, {1, 0}};
        for (int[] w : wrong) {
            check.due("night(" + w[0] + ", " + w[1] + ", true)", x.night(w[0], w[1], true), -1);
            check.due("night(" + w[0] + ", " + w[1] + ", false)", x.night(w[0], w[1], false), -1);
            check.due("about(3)", x.about(3), 0);
            Twins.same(check, "night(" + w[0] + ", " + w[1] + ", ..)", y -> {
                Check.put(y, KINGS);
                y.game();
                y.blank();
                y.blank();
                y.undo();
            }, y -> {
                y.night(w[0], w[1], true);
                y.night(w[0], w[1], false);
            });
        }
        x.night(0, 0, true);
        check.due("night(0, 0, true): black's turn", x.night(0, 0, true), -1);
        check.due("night(1, 2, true): black has two", x.night(1, 2, true), -1);
        check.due("night(1, 1, false)", x.night(1, 1, false), 1);
        check.due("night(0, 0, true): on his BOARD it is black's turn", x.night(0, 0, true), -1);
        check.due("night(1, 0, true): on his BOARD it is white's turn", x.night(1, 0, true), -1);
    }

    private void nightRefusedWhenLost() {
        check.says(12, "if one can't be");
        StraitGame x = Check.play(MEETING);
        x.night(0, 0, true);
        check.due("night(1, 0, true): black has LOST", x.night(1, 0, true), -1);
        check.due("night(0, 0, true)", x.night(0, 0, true), -1);
        check.due("blank()", x.blank(), 1);
        StraitGame y = Check.play("board 2 by 1;piece a;piece b leap 1 0;white a at 0 0;black b at 1 0;");
        check.due("night(0, 0, true): white has no MOVE", y.night(0, 0, true), -1);
        check.due("night(1, 0, true): it is not his turn", y.night(1, 0, true), -1);
    }

    private void sixtyNights() {
        check.says(0, "60 NIGHTS at most.");
        StraitGame x = new StraitGame();
        sixty(x);
        check.due("about(3)", x.about(3), 60);
        check.due("turn(0)", x.turn(0), 0);
        check.due("night(0, 0, true)", x.night(0, 0, true), -1);
        check.due("night(0, 0, false)", x.night(0, 0, false), -1);
        check.due("about(3)", x.about(3), 60);
        Twins.same(check, "night(0, 0, ..) behind 60", NightEdges::sixty, y -> y.night(0, 0, true));
        check.due("undo()", x.undo(), true);
        check.due("night(0, 0, true): the last", x.night(0, 0, true), 59);
        check.due("night(1, 0, true)", x.night(1, 0, true), -1);
        check.due("undo()", x.undo(), true);
        check.due("redo()", x.redo(), true);
        check.due("about(3)", x.about(3), 60);
    }

    private void sixtyBlanks() {
        check.says(13, "NONE, doing nothing, if 60 were.");
        StraitGame x = new StraitGame();
        for (int n = 0; n < 60; n++) {
            check.due("blank()", x.blank(), n);
        }
        check.due("blank()", x.blank(), -1);
        check.due("about(3)", x.about(3), 60);
        Twins.same(check, "blank() behind 60", NightEdges::sixty, y -> {
            y.blank();
            y.blank();
        });
        x.undo();
        check.due("blank()", x.blank(), 59);
    }

    private void blanks() {
        check.says(13, "A BLANK NIGHT: its number");
        StraitGame x = Check.play(KINGS);
        check.due("blank()", x.blank(), 0);
        check.due("turn(0)", x.turn(0), 0);
        check.due("at(0, 0)", x.at(0, 0), 0);
        check.due("differ()", x.differ(), 0);
        check.due("night(0, 0, false)", x.night(0, 0, false), 1);
        check.due("blank(): both wait", x.blank(), 2);
        check.due("turn(0)", x.turn(0), 1);
        check.due("turn(1)", x.turn(1), 0);
    }

    private void undoNone() {
        check.says(14, "UNDO: true; false if there is none.");
        StraitGame x = Check.play(KINGS);
        check.due("undo()", x.undo(), false);
        x.blank();
        check.due("undo()", x.undo(), true);
        check.due("undo()", x.undo(), false);
        check.due("about(4)", x.about(4), 1);
        check.due("undo() of an empty GAME", new StraitGame().undo(), false);
        Twins.same(check, "undo() of none", y -> {
            three(y);
            y.undo();
            y.undo();
            y.undo();
        }, y -> y.undo());
    }

    private void undoAll() {
        check.says(0, "UNDO takes back the latest NIGHT that was not");
        StraitGame x = new StraitGame();
        sixty(x);
        for (int n = 59; n >= 0; n--) {
            check.due("undo()", x.undo(), true);
            check.due("about(3)", x.about(3), n);
            check.due("about(4)", x.about(4), 60 - n);
        }
        check.due("undo()", x.undo(), false);
        check.due("at(0, 0)", x.at(0, 0), 0);
        check.due("at(1, 7)", x.at(1, 7), 1);
        check.due("turn(1)", x.turn(1), 0);
        StraitGame y = new StraitGame();
        three(y);
        y.undo();
        check.due("book(2, 0)", y.book(2, 0), -2);
        check.due("at(1, 7): the lost one's MAN", y.at(1, 7), 1);
        check.due("at(1, 3)", y.at(1, 3), -1);
        y.undo();
        check.due("at(0, 1): the blank one had none", y.at(0, 1), 0);
        y.undo();
        check.due("at(0, 1)", y.at(0, 1), -1);
        check.due("at(1, 0)", y.at(1, 0), 0);
        StraitGame z = Check.play(MEETING);
        z.night(0, 0, true);
        z.undo();
        check.due("at(0, 1): what went stands again", z.at(0, 1), 1);
        check.due("lost(0)", z.lost(0), -1);
    }

    private void redoNone() {
        check.says(15, "REDO: true; false if there is none.");
        StraitGame x = Check.play(KINGS);
        check.due("redo()", x.redo(), false);
        x.blank();
        check.due("redo(): nothing was taken back", x.redo(), false);
        x.undo();
        check.due("redo()", x.redo(), true);
        check.due("redo()", x.redo(), false);
        check.due("about(3)", x.about(3), 1);
        check.due("redo() of an empty GAME", new StraitGame().redo(), false);
        Twins.same(check, "redo() of none", NightEdges::three, y -> y.redo());
        Twins.same(check, "redo() of none behind 60", NightEdges::sixty, y -> y.redo());
    }

    private void redoOrder() {
        check.says(0, "REDO does that again which was taken back last");
        StraitGame x = new StraitGame();
        three(x);
        x.undo();
        x.undo();
        x.undo();
        check.due("redo()", x.redo(), true);
        check.due("about(3)", x.about(3), 1);
        check.book(x, 0, 0, 0, 1, 0);
        check.due("at(1, 1)", x.at(1, 1), 0);
        x.redo();
        check.book(x, 1, -1, -1, 0, 0);
        x.redo();
        check.book(x, 2, 1, 0, 0, 0);
        check.due("at(1, 3)", x.at(1, 3), 1);
        check.due("at(0, 3): lost once more", x.at(0, 3), -1);
        check.due("redo()", x.redo(), false);
        Twins.same(check, "undo() and redo()", NightEdges::three, y -> {
            y.undo();
            y.undo();
            y.redo();
            y.redo();
        });
        Twins.same(check, "undo() and redo() of 60", NightEdges::sixty, y -> {
            for (int n = 0; n < 60; n++) {
                y.undo();
            }
            for (int n = 0; n < 60; n++) {
                y.redo();
            }
        });
    }

    private void tillAnother() {
        check.says(0, "(till another NIGHT)");
        StraitGame x = new StraitGame();
        three(x);
        x.undo();
        x.undo();
        check.due("blank()", x.blank(), 1);
        check.due("about(4)", x.about(4), 0);
        check.due("redo()", x.redo(), false);
        StraitGame y = new StraitGame();
        three(y);
        y.undo();
        y.undo();
        check.due("night(1, 1, true)", y.night(1, 1, true), 1);
        check.due("about(4)", y.about(4), 0);
        check.due("redo()", y.redo(), false);
        check.due("about(3)", y.about(3), 2);
        StraitGame z = new StraitGame();
        three(z);
        z.undo();
        z.undo();
        check.due("night(1, 2, true): none", z.night(1, 2, true), -1);
        check.due("about(4)", z.about(4), 2);
        check.due("redo()", z.redo(), true);
    }

    private void books() {
        check.says(16, "Of a NIGHT that was what 0: who flashed (NONE), 1: the number (NONE), 2: 1 if it was heard, else 0, 3: 1 if the other one NOTICED, else 0");
        StraitGame x = Check.play(KINGS);
        x.night(0, 1, true);
        x.night(1, 0, true);
        x.blank();
        x.night(0, 1, false);
        check.book(x, 0, 0, 1, 1, 0);
        check.book(x, 1, 1, 0, 1, 0);
        check.book(x, 2, -1, -1, 0, 0);
        check.book(x, 3, 0, 1, 0, 0);
        check.due("about(9)", x.about(9), 0);
        StraitGame y = new StraitGame();
        sixty(y);
        check.book(y, 0, 0, 0, 1, 0);
        check.book(y, 58, 1, 1, 1, 0);
        check.book(y, 59, -1, -1, 0, 0);
    }

    private void booksRefused() {
        check.says(16, "-2 if there is none such, or for another what.");
        StraitGame x = new StraitGame();
        three(x);
        x.undo();
        for (int night : new int[] {-1, 2, 3, 59, 60, 61, FAR[0], FAR[1]}) {
            check.book(x, night, -2, -2, -2, -2);
        }
        for (int what : new int[] {-1, 4, FAR[0], FAR[1]}) {
            check.due("book(0, " + what + ")", x.book(0, what), -2);
        }
        StraitGame y = new StraitGame();
        sixty(y);
        check.book(y, 60, -2, -2, -2, -2);
    }

    private void differs() {
        check.says(17, "DIFFER: how many.");
        StraitGame x = Check.play(KINGS);
        check.due("differ()", x.differ(), 0);
        x.night(0, 0, true);
        check.due("differ(): heard", x.differ(), 0);
        x.night(1, 0, false);
        check.due("differ(): lost", x.differ(), 2);
        x.blank();
        check.due("differ()", x.differ(), 2);
        x.undo();
        x.undo();
        check.due("differ(): taken back", x.differ(), 0);
        check.says(0, "SQUARES on which the BOARDS differ (a SIDE to move that differs is none)");
        StraitGame y = Check.play(MEETING);
        y.night(0, 0, false);
        check.due("differ(): one went", y.differ(), 2);
        check.due("turn(0)", y.turn(0), 1);
        check.due("turn(1)", y.turn(1), 0);
        StraitGame z = Check.play("board 2 by 1;piece a leap 1 0;piece b leap 1 0;white a at 0 0;black a at 1 0;");
        z.night(0, 0, false);
        check.due("differ(): by the SIDE alone", z.differ(), 2);
        StraitGame w = Check.play("board 2 by 1;piece a leap 1 0;piece b leap 1 0;white a at 0 0;white b at 1 0;");
        check.due("differ() of alike ones", w.differ(), 0);
    }

    private void sinces() {
        check.says(18, "SINCE; NONE.");
        StraitGame x = Check.play(KINGS);
        check.due("since()", x.since(), -1);
        x.night(0, 0, false);
        check.due("since(): the first NIGHT", x.since(), 0);
        x.blank();
        check.due("since(): never alike since", x.since(), 0);
        StraitGame y = new StraitGame();
        sixty(y);
        check.due("since()", y.since(), -1);
        y.undo();
        y.night(0, 0, false);
        check.due("since(): the last NIGHT", y.since(), 59);
        StraitGame z = Check.play(KINGS);
        z.blank();
        z.night(0, 0, true);
        z.blank();
        z.night(1, 0, false);
        z.blank();
        check.due("since()", z.since(), 3);
    }

    private void sinceUndone() {
        check.says(0, "none, if they are alike now");
        StraitGame x = Check.play(KINGS);
        x.night(0, 0, false);
        x.undo();
        check.due("since(): taken back", x.since(), -1);
        x.blank();
        check.due("since()", x.since(), -1);
        x.night(0, 0, false);
        check.due("since()", x.since(), 1);
        x.undo();
        x.redo();
        check.due("since(): done again", x.since(), 1);
        x.undo();
        x.night(0, 0, true);
        check.due("since(): heard now", x.since(), -1);
    }
}
