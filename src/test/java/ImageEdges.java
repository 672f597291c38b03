/** BOXES and what about() tells, at their limits: promises 28 to 30. */
final class ImageEdges {
    private static final int[] NO_BOXES = {-1, 3, 4, Integer.MIN_VALUE, Integer.MAX_VALUE};
    private static final String KINGS = "board 4 by 2;piece k king leap 1 0;piece a;white k at 0 0;black k at 3 1;flash 3 4;";

    private final Check check;

    ImageEdges(Check check) {
        this.check = check;
    }

    void run() {
        images();
        imagesRefused();
        imagesAnew();
        imagesOfSixty();
        imagesFull();
        backs();
        backsToLost();
        backsAlike();
        backsRefused();
        goneOnFrom();
        whatStays();
        abouts();
        aboutsAtMost();
        aboutsRefused();
    }

    private static void played(StraitGame x) {
        Check.put(x, KINGS);
        x.game();
        x.night(0, 0, true);
        x.blank();
        x.night(1, 0, false);
        x.undo();
    }

    private void images() {
        check.says(28, "NIGHTS, both BOARDS are kept in a BOX 0 .. 2: how many NIGHTS");
        StraitGame x = Check.play(KINGS);
        check.due("image(0) of no NIGHT", x.image(0), 0);
        x.night(0, 0, true);
        check.due("image(1)", x.image(1), 1);
        x.blank();
        check.due("image(2)", x.image(2), 2);
        x.undo();
        check.due("image(2): one was taken back", x.image(2), 1);
        check.due("about(4): it can be redone still", x.about(4), 1);
        check.due("redo()", x.redo(), true);
        check.due("image(0) of an empty GAME", new StraitGame().image(0), 0);
        for (int box = 0; box < 3; box++) {
            int kept = box;
            Twins.same(check, "image(" + box + ") twice", y -> {
                played(y);
                y.image(kept);
            }, y -> y.image(kept));
        }
    }

    private void imagesRefused() {
        check.says(28, "NONE if there is none such.");
        for (int box : NO_BOXES) {
            StraitGame x = new StraitGame();
            played(x);
            check.due("image(" + box + ")", x.image(box), -1);
            check.due("back(0)", x.back(0), -1);
            check.due("back(2)", x.back(2), -1);
            Twins.same(check, "image(" + box + ")", ImageEdges::played, y -> y.image(box));
        }
    }

    private void imagesAnew() {
        check.says(28, "are kept in a BOX");
        StraitGame x = new StraitGame();
        played(x);
        x.image(1);
        x.undo();
        x.undo();
        check.due("image(1): in its place", x.image(1), 0);
        x.blank();
        check.due("back(1)", x.back(1), 0);
        check.due("at(0, 0)", x.at(0, 0), 0);
        check.due("at(1, 0)", x.at(1, 0), 0);
    }

    /** Three BOXES of 60 NIGHTS each, unlike in their first and their last ones. */
    private void imagesFull() {
        check.says(28, "are kept in a BOX 0 .. 2");
        StraitGame x = Check.play(KINGS);
        blanks(x, 59);
        x.night(0, 0, true);
        check.due("image(0)", x.image(0), 60);
        undone(x, 60);
        x.night(0, 1, true);
        blanks(x, 58);
        x.night(1, 0, false);
        check.due("image(1)", x.image(1), 60);
        undone(x, 60);
        x.night(0, 0, false);
        blanks(x, 59);
        check.due("image(2)", x.image(2), 60);
        check.due("back(0)", x.back(0), 60);
        check.book(x, 0, -1, -1, 0, 0);
        check.book(x, 59, 0, 0, 1, 0);
        check.due("at(1, 1)", x.at(1, 1), 0);
        check.due("back(1)", x.back(1), 60);
        check.book(x, 0, 0, 1, 1, 0);
        check.book(x, 59, 1, 0, 0, 0);
        check.due("since()", x.since(), 59);
        check.due("back(2)", x.back(2), 60);
        check.book(x, 0, 0, 0, 0, 0);
        check.book(x, 59, -1, -1, 0, 0);
        check.due("since()", x.since(), 0);
    }

    private static void blanks(StraitGame x, int many) {
        for (int n = 0; n < many; n++) {
            x.blank();
        }
    }

    private static void undone(StraitGame x, int many) {
        for (int n = 0; n < many; n++) {
            x.undo();
        }
    }

    private void imagesOfSixty() {
        check.says(28, "how many NIGHTS");
        StraitGame x = new StraitGame();
        NightEdges.sixty(x);
        check.due("image(2)", x.image(2), 60);
        x.undo();
        check.due("image(1)", x.image(1), 59);
        for (int n = 0; n < 59; n++) {
            x.undo();
        }
        check.due("image(0)", x.image(0), 0);
        check.due("back(2)", x.back(2), 60);
        check.due("blank()", x.blank(), -1);
        check.due("book(58, 0)", x.book(58, 0), 1);
        check.due("book(59, 0)", x.book(59, 0), -1);
        check.due("back(1)", x.back(1), 59);
        check.due("blank()", x.blank(), 59);
        check.due("back(0)", x.back(0), 0);
        check.due("undo()", x.undo(), false);
        Twins.same(check, "image and back of 60", y -> {
            NightEdges.sixty(y);
            y.image(0);
        }, y -> {
            y.undo();
            y.back(0);
        });
    }

    private void backs() {
        check.says(29, "All is as it was kept (nothing can be redone then): how many NIGHTS");
        StraitGame x = new StraitGame();
        played(x);
        check.due("image(0)", x.image(0), 2);
        check.due("about(4)", x.about(4), 1);
        check.due("back(0)", x.back(0), 2);
        check.due("about(4)", x.about(4), 0);
        check.due("redo()", x.redo(), false);
        check.due("about(3)", x.about(3), 2);
        check.book(x, 0, 0, 0, 1, 0);
        check.book(x, 1, -1, -1, 0, 0);
        check.book(x, 2, -2, -2, -2, -2);
        check.due("undo(): back's NIGHTS can be taken back", x.undo(), true);
        check.due("undo()", x.undo(), true);
        check.due("undo()", x.undo(), false);
        check.due("about(4)", x.about(4), 2);
        check.due("at(0, 0)", x.at(0, 0), 0);
    }

    private void backsToLost() {
        check.says(29, "All is as it was kept");
        StraitGame x = new StraitGame();
        played(x);
        x.redo();
        check.due("image(1)", x.image(1), 3);
        x.undo();
        x.night(1, 1, true);
        x.night(0, 0, true);
        check.due("back(1)", x.back(1), 3);
        check.due("turn(0)", x.turn(0), 1);
        check.due("turn(1)", x.turn(1), 0);
        check.due("at(0, 7)", x.at(0, 7), 1);
        check.due("at(1, 3)", x.at(1, 3), 1);
        check.due("at(1, 6)", x.at(1, 6), -1);
        check.due("differ()", x.differ(), 2);
        check.due("since()", x.since(), 2);
        check.book(x, 2, 1, 0, 0, 0);
        check.due("could(0)", x.could(0), 2);
        check.storms(x, 0, 2, 0, 1, 0);
        check.due("undo()", x.undo(), true);
        check.due("differ()", x.differ(), 0);
    }

    private void backsAlike() {
        check.says(29, "as it was kept");
        for (int box = 0; box < 3; box++) {
            int kept = box;
            Twins.same(check, "NIGHTS and back(" + box + ")", y -> {
                played(y);
                y.redo();
                y.image(kept);
                y.image((kept + 1) % 3);
            }, y -> {
                y.undo();
                y.undo();
                y.undo();
                y.night(0, 1, true);
                y.night(1, 1, true);
                y.night(0, 2, true);
                y.blank();
                y.back(kept);
            });
        }
    }

    private void backsRefused() {
        check.says(29, "NONE, doing nothing, if nothing was.");
        StraitGame x = new StraitGame();
        for (int box = 0; box < 3; box++) {
            check.due("back(" + box + ") of an empty GAME", x.back(box), -1);
            int empty = box;
            Twins.same(check, "back(" + box + ")", y -> {
                played(y);
                y.image((empty + 1) % 3);
            }, y -> y.back(empty));
        }
        for (int box : NO_BOXES) {
            StraitGame z = new StraitGame();
            played(z);
            z.image(0);
            z.image(2);
            check.due("back(" + box + ")", z.back(box), -1);
            check.due("about(4)", z.about(4), 1);
            Twins.same(check, "back(" + box + ")", ImageEdges::played, y -> y.back(box));
        }
    }

    /** What is played from an image on, or from another, leaves the image as it is. */
    private void goneOnFrom() {
        check.says(28, "both BOARDS are kept");
        StraitGame x = new StraitGame();
        played(x);
        x.image(0);
        x.back(0);
        check.due("night(1, 1, true)", x.night(1, 1, true), 2);
        check.due("image(1)", x.image(1), 3);
        x.night(0, 0, true);
        check.due("back(0): the same once more", x.back(0), 2);
        check.due("at(1, 7)", x.at(1, 7), 1);
        check.due("night(1, 0, true)", x.night(1, 0, true), 2);
        check.due("back(1)", x.back(1), 3);
        check.due("at(0, 6)", x.at(0, 6), 1);
        check.due("at(1, 6)", x.at(1, 6), 1);
        check.due("at(0, 1)", x.at(0, 1), 0);
        check.due("back(0)", x.back(0), 2);
        check.due("turn(0)", x.turn(0), 1);
    }

    private void whatStays() {
        check.says(28, "NIGHTS, both BOARDS");
        StraitGame x = new StraitGame();
        played(x);
        x.image(0);
        x.later(3);
        x.sight(1, 1, 0, 0, 0);
        Check.put(x, "abc");
        x.back(0);
        check.due("about(5): SIGHTS are not kept", x.about(5), 1);
        check.due("about(6): nor is the TIME", x.about(6), 3);
        check.due("about(7): nor the TAPE", x.about(7), 3);
        check.due("about(0)", x.about(0), 8);
        check.storms(x, 3, 1, 1, 0, 1);
    }

    private void abouts() {
        check.says(30, "What 0: SQUARES, 1: PIECES, 2: MEN at first, 3: NIGHTS, 4: NIGHTS that can be redone, 5: SIGHTS, 6: the TIME, 7: bytes on the TAPE, 8: numbers told behind flash, 9: how often somebody NOTICED.");
        StraitGame x = new StraitGame();
        played(x);
        x.sight(0, 0, 0, 0, 0);
        x.sight(0, 0, 0, 0, 0);
        x.sight(0, 0, 0, 0, 0);
        x.untell(0);
        x.later(9);
        Check.put(x, "abcde");
        int[] due = {8, 2, 2, 2, 1, 3, 9, 5, 2, 0};
        for (int what = 0; what < due.length; what++) {
            check.due("about(" + what + ")", x.about(what), due[what]);
        }
        StraitGame y = Check.play("board 2 by 1;piece a leap 1 0;white a at 0 0;black a at 1 0;");
        y.night(0, 0, true);
        check.due("about(2): MEN at first, not now", y.about(2), 2);
    }

    private void aboutsAtMost() {
        check.says(30, "What 0: SQUARES");
        StringBuilder text = new StringBuilder("board 5 by 6;piece a;piece b;piece c;piece d;piece e;piece f;flash 1 2 3 4 5 6 7 8 9 10 11 12;");
        for (int i = 0; i < 12; i++) {
            text.append("white f at ").append(i % 5).append(' ').append(i / 5).append(';');
        }
        StraitGame x = Check.play(text.toString());
        for (int n = 0; n < 60; n++) {
            x.blank();
        }
        for (int n = 0; n < 30; n++) {
            x.sight(59, 0, n, -1, 0);
        }
        for (int n = 0; n < 100; n++) {
            x.later(1000);
        }
        Check.put(x, " ".repeat(1600));
        int[] due = {30, 6, 12, 60, 0, 30, 100000, 1600, 12, 0};
        for (int what = 0; what < due.length; what++) {
            check.due("about(" + what + ")", x.about(what), due[what]);
        }
        for (int n = 0; n < 60; n++) {
            x.undo();
        }
        check.due("about(4)", x.about(4), 60);
        check.due("about(3)", x.about(3), 0);
    }

    private void aboutsRefused() {
        check.says(30, "NONE for another what.");
        StraitGame x = new StraitGame();
        for (int what : new int[] {-1, 10, 11, Integer.MIN_VALUE, Integer.MAX_VALUE}) {
            check.due("about(" + what + ")", x.about(what), -1);
        }
    }
}
