/** Promises 24 to 27: SIGHTS, the TIME, and what squalls must have lost. */
public final class StormsTest {
    private static final Check CHECK = new Check("StormsTest");
    private static final String KINGS = "board 4 by 2;piece k king leap 1 0;piece a;white k at 0 0;black k at 3 1;";

    public static void main(String[] args) {
        withoutNights();
        wrongSights();
        thirtySights();
        times();
        lastFlash();
        knownInTwoTimes();
        noSets();
        tenNights();
        blankNights();
        undoneNights();
        CHECK.end();
    }

    private static void withoutNights() {
        StraitGame x = Check.play(KINGS);
        CHECK.storms(x, 0, 1, 0, 0, 0);
        CHECK.storms(x, -5, 1, 0, 0, 0);
        CHECK.due("storms(4, 0)", x.storms(4, 0), -2);
        CHECK.due("storms(-1, 0)", x.storms(-1, 0), -2);
        CHECK.due("sight: no NIGHT was", x.sight(0, 0, 0, 0, 0), -1);
    }

    private static void wrongSights() {
        StraitGame x = Check.play(KINGS);
        x.blank();
        CHECK.due("sight(-1, ..)", x.sight(-1, 0, 0, 0, 0), -1);
        CHECK.due("sight(1, ..)", x.sight(1, 0, 0, 0, 0), -1);
        CHECK.due("sight keeper 2", x.sight(0, 2, 0, 0, 0), -1);
        CHECK.due("sight keeper -1", x.sight(0, -1, 0, 0, 0), -1);
        CHECK.due("sight square 8", x.sight(0, 0, 8, 0, 0), -1);
        CHECK.due("sight square -1", x.sight(0, 0, -1, 0, 0), -1);
        CHECK.due("sight piece 2", x.sight(0, 0, 0, 2, 0), -1);
        CHECK.due("sight piece -2", x.sight(0, 0, 0, -2, 0), -1);
        CHECK.due("sight side 2", x.sight(0, 0, 0, 0, 2), -1);
        CHECK.due("sight side -1", x.sight(0, 0, 0, 0, -1), -1);
        CHECK.due("about(5)", x.about(5), 0);
        CHECK.due("sight", x.sight(0, 1, 7, 1, 1), 0);
        CHECK.due("about(5)", x.about(5), 1);
    }

    private static void thirtySights() {
        StraitGame x = Check.play(KINGS);
        x.blank();
        for (int i = 0; i < 30; i++) {
            CHECK.due("sight " + i, x.sight(0, i % 2, 0, 0, 0), i);
        }
        CHECK.due("sight 30", x.sight(0, 0, 0, 0, 0), -1);
        CHECK.due("untell(29)", x.untell(29), true);
        CHECK.due("sight 30: an UNTOLD one counts", x.sight(0, 0, 0, 0, 0), -1);
        CHECK.due("about(5)", x.about(5), 30);
        CHECK.due("untell(30)", x.untell(30), false);
        CHECK.due("untell(-1)", x.untell(-1), false);
        CHECK.due("untell(29)", x.untell(29), false);
        CHECK.due("untell(0)", x.untell(0), true);
    }

    private static void times() {
        StraitGame x = new StraitGame();
        CHECK.due("later(0)", x.later(0), 0);
        CHECK.due("later(1)", x.later(1), 1);
        CHECK.due("later(-1)", x.later(-1), -1);
        CHECK.due("later(1001)", x.later(1001), -1);
        CHECK.due("later(MIN)", x.later(Integer.MIN_VALUE), -1);
        CHECK.due("later(MAX)", x.later(Integer.MAX_VALUE), -1);
        for (int n = 1; n < 100; n++) {
            CHECK.due("later(1000)", x.later(1000), 1000 * n + 1);
        }
        CHECK.due("later(1000)", x.later(1000), -1);
        CHECK.due("later(999)", x.later(999), 100000);
        CHECK.due("later(1)", x.later(1), -1);
        CHECK.due("later(0)", x.later(0), 100000);
        CHECK.due("about(6)", x.about(6), 100000);
    }

    /** A flash that was answered can't have been lost: only the last one can. */
    private static void lastFlash() {
        StraitGame x = Check.play(KINGS);
        x.night(0, 0, true);
        CHECK.storms(x, 0, 2, 0, 0, 0);
        x.night(1, 0, true);
        x.night(0, 1, true);
        CHECK.storms(x, 0, 2, 0, 3, 0);
        CHECK.due("sight: it was heard", x.sight(2, 1, 2, 0, 0), 0);
        CHECK.storms(x, 0, 1, 0, 7, 0);
        x.untell(0);
        CHECK.due("sight: it was lost", x.sight(2, 1, 1, 0, 0), 1);
        CHECK.storms(x, 0, 1, 4, 3, 1);
        CHECK.due("sight: both can't be", x.sight(2, 1, 2, 0, 0), 2);
        CHECK.storms(x, 0, 0, 0, 0, -1);
    }

    private static void knownInTwoTimes() {
        StraitGame x = Check.play(KINGS);
        x.later(5);
        x.night(0, 0, false);
        CHECK.due("sight", x.sight(0, 1, 0, 0, 0), 0);
        CHECK.storms(x, 4, 2, 0, 0, 0);
        CHECK.storms(x, 5, 1, 1, 0, 1);
        CHECK.storms(x, 999999, 1, 1, 0, 1);
        x.later(2);
        CHECK.due("untell(0)", x.untell(0), true);
        CHECK.storms(x, 6, 1, 1, 0, 1);
        CHECK.storms(x, 7, 2, 0, 0, 0);
        CHECK.due("sight", x.sight(0, 1, 1, 0, 0), 1);
        CHECK.storms(x, 7, 1, 0, 1, 0);
        CHECK.storms(x, 6, 1, 1, 0, 1);
        CHECK.due("untell(1) at its own TIME", x.untell(1), true);
        CHECK.storms(x, 7, 2, 0, 0, 0);
    }

    private static void noSets() {
        StraitGame x = Check.play(KINGS);
        x.night(0, 0, true);
        x.sight(0, 0, 0, 0, 0);
        CHECK.storms(x, 0, 0, 0, 0, -1);
        x.untell(0);
        x.sight(0, 0, 1, 0, 1);
        CHECK.storms(x, 0, 0, 0, 0, -1);
        x.untell(1);
        x.sight(0, 0, 1, 1, 0);
        CHECK.storms(x, 0, 0, 0, 0, -1);
        x.untell(2);
        x.sight(0, 0, 1, -1, 0);
        CHECK.storms(x, 0, 0, 0, 0, -1);
        x.untell(3);
        CHECK.storms(x, 0, 2, 0, 0, 0);
    }

    /** Only the first ten are asked; what comes behind them stays as it was. */
    private static void tenNights() {
        StraitGame x = Check.play(KINGS);
        for (int n = 0; n < 10; n++) {
            x.night(n % 2, n % 4 < 2 ? 0 : x.moves(n % 2) - 1, true);
        }
        CHECK.storms(x, 0, 2, 0, 511, 0);
        x.night(0, 0, false);
        CHECK.storms(x, 0, 1, 0, 1023, 0);
    }

    private static void blankNights() {
        StraitGame x = Check.play(KINGS);
        x.blank();
        x.blank();
        x.night(0, 0, true);
        x.blank();
        CHECK.storms(x, 0, 2, 0, 0, 0);
        CHECK.due("sight behind NIGHT 1", x.sight(1, 1, 0, 0, 0), 0);
        CHECK.storms(x, 0, 2, 0, 0, 0);
        CHECK.due("sight behind NIGHT 3", x.sight(3, 1, 0, 0, 0), 1);
        CHECK.storms(x, 0, 1, 1, 0, 1);
    }

    /** A SIGHT behind a NIGHT that was taken back asks nothing, till there is such a NIGHT again. */
    private static void undoneNights() {
        StraitGame x = Check.play(KINGS);
        x.night(0, 0, true);
        x.blank();
        x.sight(1, 1, 0, 0, 0);
        CHECK.storms(x, 0, 1, 1, 0, 1);
        x.undo();
        CHECK.storms(x, 0, 2, 0, 0, 0);
        CHECK.due("about(5)", x.about(5), 1);
        x.redo();
        CHECK.storms(x, 0, 1, 1, 0, 1);
    }
}
