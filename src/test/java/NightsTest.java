/** Promises 12 to 18: NIGHTS, UNDO and REDO, the book of them, where and since when the BOARDS differ. */
public final class NightsTest {
    private static final Check CHECK = new Check("NightsTest");
    private static final String KINGS = "board 4 by 2;piece k king leap 1 0;white k at 0 0;black k at 3 1;";

    public static void main(String[] args) {
        heard();
        lostNight();
        refused();
        sixty();
        undoing();
        undoingLost();
        CHECK.end();
    }

    private static void heard() {
        StraitGame x = Check.play(KINGS);
        CHECK.due("night(0, 0, true)", x.night(0, 0, true), 0);
        CHECK.due("night(1, 1, true)", x.night(1, 1, true), 1);
        for (int keeper = 0; keeper < 2; keeper++) {
            CHECK.due("turn", x.turn(keeper), 0);
            CHECK.due("at white", x.at(keeper, 1), 0);
            CHECK.due("at black", x.at(keeper, 6), 1);
            CHECK.due("at 0", x.at(keeper, 0), -1);
            CHECK.due("at 7", x.at(keeper, 7), -1);
        }
        CHECK.due("differ()", x.differ(), 0);
        CHECK.due("since()", x.since(), -1);
        CHECK.book(x, 0, 0, 0, 1, 0);
        CHECK.book(x, 1, 1, 1, 1, 0);
        CHECK.book(x, 2, -2, -2, -2, -2);
        CHECK.book(x, -1, -2, -2, -2, -2);
        CHECK.due("book(0, 4)", x.book(0, 4), -2);
        CHECK.due("book(0, -1)", x.book(0, -1), -2);
        CHECK.due("about(9)", x.about(9), 0);
    }

    private static void lostNight() {
        StraitGame x = Check.play(KINGS);
        CHECK.due("blank()", x.blank(), 0);
        CHECK.due("night(0, 1, false)", x.night(0, 1, false), 1);
        CHECK.book(x, 0, -1, -1, 0, 0);
        CHECK.book(x, 1, 0, 1, 0, 0);
        CHECK.due("at(0, 4)", x.at(0, 4), 0);
        CHECK.due("at(1, 4)", x.at(1, 4), -1);
        CHECK.due("at(1, 0)", x.at(1, 0), 0);
        CHECK.due("turn(0)", x.turn(0), 1);
        CHECK.due("turn(1)", x.turn(1), 0);
        CHECK.due("moves(0)", x.moves(0), 2);
        CHECK.due("differ()", x.differ(), 2);
        CHECK.due("since()", x.since(), 1);
        CHECK.due("night(0, 0, true): not his turn on his BOARD", x.night(0, 0, true), -1);
        CHECK.due("night(1, 0, true): not his turn on his BOARD", x.night(1, 0, true), -1);
        CHECK.due("blank()", x.blank(), 2);
        CHECK.due("since()", x.since(), 1);
        CHECK.due("about(3)", x.about(3), 3);
        CHECK.due("about(9)", x.about(9), 0);
    }

    private static void refused() {
        StraitGame x = Check.play(KINGS);
        CHECK.due("night(1, 0, true)", x.night(1, 0, true), -1);
        CHECK.due("night(0, 2, true)", x.night(0, 2, true), -1);
        CHECK.due("night(0, -1, true)", x.night(0, -1, true), -1);
        CHECK.due("night(2, 0, true)", x.night(2, 0, true), -1);
        CHECK.due("night(-1, 0, true)", x.night(-1, 0, true), -1);
        CHECK.due("about(3)", x.about(3), 0);
        CHECK.due("at(0, 0)", x.at(0, 0), 0);
        x.night(0, 0, true);
        x.undo();
        CHECK.due("night(0, 2, true)", x.night(0, 2, true), -1);
        CHECK.due("about(4): a refused one leaves it", x.about(4), 1);
    }

    private static void sixty() {
        StraitGame x = Check.play(KINGS);
        for (int n = 0; n < 60; n++) {
            int keeper = n / 2 % 2;
            CHECK.due("NIGHT " + n, n % 2 == 0 ? x.night(keeper, n % 4 == 0 ? 0 : x.moves(1) - 1, true) : x.blank(), n);
        }
        CHECK.due("blank()", x.blank(), -1);
        CHECK.due("night()", x.night(x.turn(0), 0, true), -1);
        CHECK.due("about(3)", x.about(3), 60);
        CHECK.due("book(59, 0)", x.book(59, 0), -1);
        CHECK.due("book(60, 0)", x.book(60, 0), -2);
        for (int n = 0; n < 60; n++) {
            CHECK.due("undo()", x.undo(), true);
        }
        CHECK.due("undo()", x.undo(), false);
        CHECK.due("about(4)", x.about(4), 60);
        CHECK.due("at(1, 0)", x.at(1, 0), 0);
        for (int n = 0; n < 60; n++) {
            CHECK.due("redo()", x.redo(), true);
        }
        CHECK.due("redo()", x.redo(), false);
        CHECK.due("blank()", x.blank(), -1);
    }

    private static void undoing() {
        StraitGame x = Check.play(KINGS);
        CHECK.due("undo()", x.undo(), false);
        CHECK.due("redo()", x.redo(), false);
        x.night(0, 0, true);
        x.night(1, 0, true);
        x.blank();
        CHECK.due("undo()", x.undo(), true);
        CHECK.due("undo()", x.undo(), true);
        CHECK.due("about(3)", x.about(3), 1);
        CHECK.due("about(4)", x.about(4), 2);
        CHECK.due("turn(0)", x.turn(0), 1);
        CHECK.due("at(0, 7)", x.at(0, 7), 1);
        CHECK.due("book(1, 0): taken back", x.book(1, 0), -2);
        CHECK.due("redo()", x.redo(), true);
        CHECK.due("book(1, 0)", x.book(1, 0), 1);
        CHECK.due("at(0, 3)", x.at(0, 3), 1);
        CHECK.due("at(1, 3)", x.at(1, 3), 1);
        CHECK.due("about(4)", x.about(4), 1);
        CHECK.due("undo()", x.undo(), true);
        CHECK.due("blank()", x.blank(), 1);
        CHECK.due("about(4)", x.about(4), 0);
        CHECK.due("redo()", x.redo(), false);
    }

    private static void undoingLost() {
        StraitGame x = Check.play(KINGS);
        x.night(0, 0, false);
        x.undo();
        CHECK.due("differ()", x.differ(), 0);
        CHECK.due("since()", x.since(), -1);
        x.redo();
        CHECK.due("book(0, 2)", x.book(0, 2), 0);
        CHECK.due("differ()", x.differ(), 2);
        CHECK.due("since()", x.since(), 0);
        x.undo();
        CHECK.due("night(0, 0, true)", x.night(0, 0, true), 0);
        CHECK.due("differ()", x.differ(), 0);
        CHECK.due("book(0, 2)", x.book(0, 2), 1);
    }
}
