/** Promises 28 to 30: images, and what about() tells. */
public final class ImageTest {
    private static final Check CHECK = new Check("ImageTest");
    private static final String KINGS = "board 4 by 2;piece k king leap 1 0;piece a;white k at 0 0;black k at 3 1;flash 3 4;";

    public static void main(String[] args) {
        wrongBoxes();
        goingBack();
        whatIsNotKept();
        abouts();
        CHECK.end();
    }

    private static void wrongBoxes() {
        StraitGame x = Check.play(KINGS);
        CHECK.due("image(-1)", x.image(-1), -1);
        CHECK.due("image(3)", x.image(3), -1);
        CHECK.due("back(-1)", x.back(-1), -1);
        CHECK.due("back(3)", x.back(3), -1);
        x.blank();
        x.undo();
        CHECK.due("back(0)", x.back(0), -1);
        CHECK.due("about(4): nothing was done", x.about(4), 1);
        CHECK.due("image(0)", x.image(0), 0);
        CHECK.due("about(4): it stays", x.about(4), 1);
        CHECK.due("back(0)", x.back(0), 0);
        CHECK.due("about(4)", x.about(4), 0);
    }

    private static void goingBack() {
        StraitGame x = Check.play(KINGS);
        x.night(0, 0, true);
        x.night(1, 0, false);
        CHECK.due("image(2)", x.image(2), 2);
        x.undo();
        x.undo();
        x.night(0, 1, true);
        CHECK.due("image(0)", x.image(0), 1);
        x.undo();
        CHECK.due("back(2)", x.back(2), 2);
        CHECK.due("redo()", x.redo(), false);
        CHECK.due("at(0, 1)", x.at(0, 1), 0);
        CHECK.due("at(1, 3)", x.at(1, 3), 1);
        CHECK.due("at(0, 3)", x.at(0, 3), -1);
        CHECK.due("turn(0)", x.turn(0), 1);
        CHECK.due("turn(1)", x.turn(1), 0);
        CHECK.due("since()", x.since(), 1);
        CHECK.due("book(0, 1)", x.book(0, 1), 0);
        CHECK.due("book(1, 2)", x.book(1, 2), 0);
        CHECK.due("undo()", x.undo(), true);
        CHECK.due("at(1, 7)", x.at(1, 7), 1);
        CHECK.due("night(1, 0, true)", x.night(1, 0, true), 1);
        CHECK.due("back(0)", x.back(0), 1);
        CHECK.due("at(1, 4)", x.at(1, 4), 0);
        CHECK.due("about(3)", x.about(3), 1);
        CHECK.due("back(2)", x.back(2), 2);
        CHECK.due("book(1, 2)", x.book(1, 2), 0);
        CHECK.due("image(2)", x.image(2), 2);
    }

    private static void whatIsNotKept() {
        StraitGame x = Check.play(KINGS);
        x.blank();
        x.image(0);
        x.later(3);
        x.sight(0, 0, 0, 0, 0);
        CHECK.due("back(0)", x.back(0), 1);
        CHECK.due("about(5)", x.about(5), 1);
        CHECK.due("about(6)", x.about(6), 3);
        CHECK.due("back(0): it is kept on", x.back(0), 1);
    }

    private static void abouts() {
        StraitGame x = Check.play(KINGS);
        x.night(0, 0, true);
        x.blank();
        x.blank();
        x.undo();
        x.sight(0, 0, 0, 0, 0);
        x.sight(1, 0, 0, 0, 0);
        x.untell(0);
        x.later(9);
        Check.put(x, "abc");
        int[] due = {8, 2, 2, 2, 1, 2, 9, 3, 2, 0};
        for (int what = 0; what < due.length; what++) {
            CHECK.due("about(" + what + ")", x.about(what), due[what]);
        }
        CHECK.due("about(10)", x.about(10), -1);
        CHECK.due("about(-1)", x.about(-1), -1);
    }
}
