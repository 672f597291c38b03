/** SIGHTS, the TIME and STORMS at their limits: promises 24 to 27. */
final class SightEdges {
    private static final int[] FAR = {Integer.MIN_VALUE, Integer.MAX_VALUE};
    private static final String KINGS = "board 4 by 2;piece k king leap 1 0;piece a;white k at 0 0;black k at 3 1;";

    private final Check check;

    SightEdges(Check check) {
        this.check = check;
    }

    void run() {
        sights();
        sightsRefused();
        sightsOfTakenBack();
        thirty();
        untells();
        untellsRefused();
        laters();
        latersRefused();
        toldAt();
        untoldAt();
        toldAndUntold();
        eachSight();
        eachPieceSeen();
        withoutNights();
        sets();
        firstTen();
        blanksBetween();
        byTurn();
        noSets();
        anyTime();
        otherWhat();
    }

    private static StraitGame flashed(boolean heard) {
        StraitGame x = Check.play(KINGS);
        x.night(0, 0, heard);
        return x;
    }

    /** Ten flashes, all heard: the kings step on and back. */
    private static StraitGame ten() {
        StraitGame x = Check.play(KINGS);
        for (int n = 0; n < 10; n++) {
            x.night(n % 2, n % 4 == 3 ? 1 : 0, true);
        }
        return x;
    }

    private void sights() {
        check.says(24, "A SIGHT (PIECE, SIDE; NONE for PIECE: free): its number");
        StraitGame x = flashed(true);
        check.due("sight: NIGHT 0, SQUARE 0, free", x.sight(0, 0, 0, -1, 0), 0);
        check.due("sight: the last SQUARE, SIDE 1", x.sight(0, 1, 7, 0, 1), 1);
        check.due("sight: the last PIECE", x.sight(0, 1, 7, 1, 1), 2);
        check.due("sight: it need not be so", x.sight(0, 0, 0, 0, 0), 3);
        check.due("about(5)", x.about(5), 4);
        x.blank();
        check.due("sight: the last NIGHT", x.sight(1, 0, 0, -1, 1), 4);
    }

    private void sightsRefused() {
        check.says(24, "NONE, doing nothing, if one can't be, or there are 30.");
        int[][] wrong = {
            {-1, 0, 0, 0, 0}, {1, 0, 0, 0, 0}, {60, 0, 0, 0, 0}, {FAR[0], 0, 0, 0, 0}, {FAR[1], 0, 0, 0, 0},
            {0, -1, 0, 0, 0}, {0, 2, 0, 0, 0}, {0, FAR[0], 0, 0, 0}, {0, FAR[1], 0, 0, 0},
            {0, 0, -1, 0, 0}, {0, 0, 8, 0, 0}, {0, 0, 29, 0, 0}, {0, 0, FAR[0], 0, 0}, {0, 0, FAR[1], 0, 0},
            {0, 0, 0, -2, 0}, {0, 0, 0, 2, 0}, {0, 0, 0, FAR[0], 0}, {0, 0, 0, FAR[1], 0},
            {0, 0, 0, 0, -1}, {0, 0, 0, 0, 2}, {0, 0, 0, 0, FAR[0]}, {0, 0, 0, 0, FAR[1]}};
        StraitGame x = flashed(true);
        for (int[] w : wrong) {
            check.due("sight " + java.util.Arrays.toString(w), x.sight(w[0], w[1], w[2], w[3], w[4]), -1);
            check.due("about(5)", x.about(5), 0);
        }
        check.storms(x, 0, 2, 0, 0, 0);
        check.due("sight", x.sight(0, 0, 0, 0, 0), 0);
        StraitGame y = Check.play(KINGS);
        check.due("sight: no NIGHT was", y.sight(0, 0, 0, 0, 0), -1);
        StraitGame z = Check.play("board 1 by 1;");
        z.blank();
        check.due("sight: no PIECE is", z.sight(0, 0, 0, 0, 0), -1);
        check.due("sight: free", z.sight(0, 0, 0, -1, 0), 0);
    }

    private void sightsOfTakenBack() {
        check.says(0, "behind a NIGHT (that was) a keeper's BOARD had on a SQUARE a PIECE of a SIDE, or none");
        StraitGame x = flashed(true);
        x.undo();
        check.due("sight: taken back", x.sight(0, 0, 0, 0, 0), -1);
        x.redo();
        check.due("sight: done again", x.sight(0, 0, 1, 0, 0), 0);
        check.storms(x, 0, 2, 0, 0, 0);
        check.due("sight: black's BOARD, had it been lost", x.sight(0, 1, 0, 0, 0), 1);
        check.storms(x, 0, 1, 1, 0, 1);
        x.undo();
        check.due("about(5): they stay", x.about(5), 2);
        check.storms(x, 0, 1, 0, 0, 0);
        x.blank();
        check.due("about(3)", x.about(3), 1);
        check.storms(x, 0, 0, 0, 0, -1);
    }

    private void thirty() {
        check.says(0, "SIGHTS, 30 at most");
        StraitGame x = flashed(true);
        for (int n = 0; n < 30; n++) {
            check.due("sight " + n, x.sight(0, 0, 1, 0, 0), n);
        }
        check.due("about(5)", x.about(5), 30);
        check.due("sight: there are 30", x.sight(0, 0, 0, 0, 0), -1);
        check.due("about(5)", x.about(5), 30);
        check.storms(x, 0, 2, 0, 0, 0);
        check.due("untell(29)", x.untell(29), true);
        check.due("sight: an UNTOLD one is one of them", x.sight(0, 0, 1, 0, 0), -1);
        Twins.same(check, "sight behind 30", y -> {
            Check.put(y, KINGS);
            y.game();
            y.night(0, 0, true);
            for (int n = 0; n < 30; n++) {
                y.sight(0, 0, 1, 0, 0);
            }
        }, y -> y.sight(0, 0, 0, 0, 0));
    }

    private void untells() {
        check.says(25, "It is UNTOLD: true; false if it is so already, or there is none such.");
        StraitGame x = flashed(true);
        x.sight(0, 0, 1, 0, 0);
        x.sight(0, 0, 0, 0, 0);
        check.storms(x, 0, 0, 0, 0, -1);
        check.due("untell(1): the last", x.untell(1), true);
        check.storms(x, 0, 2, 0, 0, 0);
        check.due("untell(1): already", x.untell(1), false);
        check.due("untell(0): the first", x.untell(0), true);
        check.due("untell(0): already", x.untell(0), false);
        x.later(5);
        check.due("untell(1): already, later", x.untell(1), false);
        check.due("about(5)", x.about(5), 2);
    }

    private void untellsRefused() {
        check.says(25, "there is none such");
        StraitGame x = flashed(true);
        check.due("untell(0): none was told", x.untell(0), false);
        check.due("untell(0) of an empty GAME", new StraitGame().untell(0), false);
        x.sight(0, 1, 0, 0, 0);
        for (int sight : new int[] {-1, 1, 2, 29, 30, 31, FAR[0], FAR[1]}) {
            check.due("untell(" + sight + ")", x.untell(sight), false);
            Twins.same(check, "untell(" + sight + ")", SightEdges::oneSight, y -> y.untell(sight));
        }
        check.storms(x, 0, 1, 1, 0, 1);
        check.due("untell(0)", x.untell(0), true);
        // Once more at a later TIME must not make it a later one's.
        Twins.same(check, "untell(0) of an UNTOLD one", y -> {
            oneSight(y);
            y.untell(0);
            y.later(1);
        }, y -> y.untell(0));
    }

    private static void oneSight(StraitGame x) {
        Check.put(x, KINGS);
        x.game();
        x.night(0, 0, true);
        x.sight(0, 1, 0, 0, 0);
    }

    private void laters() {
        check.says(26, "So much later (0 .. 1000): the TIME");
        StraitGame x = new StraitGame();
        check.due("about(6)", x.about(6), 0);
        check.due("later(0)", x.later(0), 0);
        check.due("later(1000)", x.later(1000), 1000);
        check.due("later(1)", x.later(1), 1001);
        check.due("later(0)", x.later(0), 1001);
        check.due("about(6)", x.about(6), 1001);
    }

    private void latersRefused() {
        check.says(26, "NONE, doing nothing, for another number, or if it would be above 100,000.");
        StraitGame x = new StraitGame();
        x.later(1);
        for (int by : new int[] {-1, 1001, -1000, 100000, FAR[0], FAR[1]}) {
            check.due("later(" + by + ")", x.later(by), -1);
            check.due("about(6)", x.about(6), 1);
            Twins.same(check, "later(" + by + ")", SightEdges::oneSight, y -> y.later(by));
        }
        for (int n = 1; n < 100; n++) {
            x.later(1000);
        }
        check.due("about(6)", x.about(6), 99001);
        check.due("later(1000): above", x.later(1000), -1);
        check.due("about(6)", x.about(6), 99001);
        check.due("later(999)", x.later(999), 100000);
        check.due("later(1): above", x.later(1), -1);
        check.due("later(1000): above", x.later(1000), -1);
        check.due("later(0)", x.later(0), 100000);
        check.due("later(-1)", x.later(-1), -1);
        check.due("about(6)", x.about(6), 100000);
    }

    private void toldAt() {
        check.says(0, "As known at k those count that were TOLD at k or before");
        StraitGame x = flashed(false);
        x.later(5);
        x.sight(0, 1, 0, 0, 0);
        check.storms(x, 4, 2, 0, 0, 0);
        check.storms(x, 5, 1, 1, 0, 1);
        check.storms(x, 6, 1, 1, 0, 1);
        StraitGame y = flashed(false);
        y.sight(0, 1, 0, 0, 0);
        check.storms(y, -1, 2, 0, 0, 0);
        check.storms(y, 0, 1, 1, 0, 1);
    }

    private void untoldAt() {
        check.says(0, "not UNTOLD at k or before");
        StraitGame x = flashed(false);
        x.sight(0, 1, 0, 0, 0);
        x.later(3);
        x.untell(0);
        x.later(3);
        check.storms(x, -1, 2, 0, 0, 0);
        check.storms(x, 0, 1, 1, 0, 1);
        check.storms(x, 2, 1, 1, 0, 1);
        check.storms(x, 3, 2, 0, 0, 0);
        check.storms(x, 4, 2, 0, 0, 0);
        check.storms(x, 6, 2, 0, 0, 0);
    }

    private void toldAndUntold() {
        check.says(0, "UNTOLD at a later one or the same");
        StraitGame x = flashed(false);
        x.later(3);
        x.sight(0, 1, 0, 0, 0);
        check.due("untell(0)", x.untell(0), true);
        for (int k = 2; k <= 4; k++) {
            check.storms(x, k, 2, 0, 0, 0);
        }
        StraitGame y = flashed(false);
        y.sight(0, 1, 0, 0, 0);
        check.due("untell(0) at TIME 0", y.untell(0), true);
        check.storms(y, 0, 2, 0, 0, 0);
        check.storms(y, 1, 2, 0, 0, 0);
    }

    /** Each part of a SIGHT decides: behind the one flash, heard, what is so and what is not. */
    private void eachSight() {
        check.says(0, "both BOARDS come to be so that all SIGHTS that count are so");
        int[][] seen = {{0, 1, 0, 0, 2}, {0, 0, 0, 0, 0}, {0, 1, 0, 1, 0}, {0, 1, 1, 0, 0}, {0, 1, -1, 0, 0},
            {0, 0, -1, 0, 2}, {1, 0, 0, 0, 1}, {1, 1, 0, 0, 1}, {1, 0, -1, 0, 1}, {1, 7, 0, 1, 2}, {0, 7, 0, 0, 0},
            {0, 7, -1, 0, 0}, {0, 6, -1, 1, 2}, {1, 1, -1, 1, 1}};
        for (int[] s : seen) {
            StraitGame x = flashed(true);
            x.sight(0, s[0], s[1], s[2], s[3]);
            check.due("storms(0, 0) of " + java.util.Arrays.toString(s), x.storms(0, 0), s[4]);
        }
        StraitGame y = flashed(true);
        y.sight(0, 1, 0, 0, 0);
        y.sight(0, 1, 1, 0, 0);
        check.due("storms(0, 0) of two that can't be both", y.storms(0, 0), 0);
    }

    /** Six PIECES of both SIDES on a BOARD: each is seen where it stands, and no other. */
    private void eachPieceSeen() {
        check.says(0, "a PIECE of a SIDE, or none");
        StringBuilder text = new StringBuilder("board 5 by 3;");
        for (int piece = 0; piece < 6; piece++) {
            text.append("piece ").append((char) ('a' + piece)).append(" leap 1 0;");
        }
        for (int man = 0; man < 12; man++) {
            text.append(man % 2 == 0 ? "white " : "black ").append((char) ('a' + man / 2));
            text.append(" at ").append(man % 5).append(' ').append(man / 5).append(';');
        }
        for (int man = 0; man < 12; man++) {
            StraitGame x = Check.play(text.toString());
            x.blank();
            for (int other = 0; other < 12; other++) {
                x.sight(0, man % 2, man, other / 2, other % 2);
                check.due("storms(0, 0), SQUARE " + man + " has " + other, x.storms(0, 0), man == other ? 1 : 0);
                x.untell(other);
            }
            x.sight(0, man % 2, man, -1, man % 2);
            check.due("storms(0, 0), SQUARE " + man + " is free", x.storms(0, 0), 0);
        }
    }

    private void withoutNights() {
        check.says(27, "STORMS what 0: how many sets, 1: LOST for sure, 2: HEARD for sure, as bits (0 without sets), 3: the fewest lost (NONE)");
        StraitGame x = Check.play(KINGS);
        check.storms(x, 0, 1, 0, 0, 0);
        x.blank();
        check.storms(x, 0, 1, 0, 0, 0);
        x.sight(0, 0, 0, 0, 0);
        check.storms(x, 0, 1, 0, 0, 0);
        x.sight(0, 0, 0, -1, 0);
        check.storms(x, 0, 0, 0, 0, -1);
    }

    private void sets() {
        check.says(0, "How many; LOST for sure, HEARD for sure; the fewest lost.");
        StraitGame x = flashed(true);
        check.storms(x, 0, 2, 0, 0, 0);
        x.night(1, 0, true);
        check.storms(x, 0, 2, 0, 1, 0);
        x.night(0, 0, false);
        check.storms(x, 0, 2, 0, 3, 0);
        x.sight(2, 1, 1, 0, 0);
        check.storms(x, 0, 1, 4, 3, 1);
        x.untell(0);
        x.sight(2, 1, 1, -1, 0);
        check.storms(x, 0, 1, 0, 7, 0);
    }

    private void firstTen() {
        check.says(0, "of the first 10 NIGHTS with a flash, which were lost: sets (as bits, by order of these NIGHTS)");
        StraitGame x = ten();
        check.storms(x, 0, 2, 0, 511, 0);
        x.sight(9, 0, 3, -1, 0);
        check.storms(x, 0, 1, 512, 511, 1);
        x.untell(0);
        x.sight(9, 0, 3, 0, 1);
        check.storms(x, 0, 1, 0, 1023, 0);
        check.says(0, "other NIGHTS lost or heard as they were");
        StraitGame y = ten();
        y.night(0, 0, true);
        check.storms(y, 0, 1, 0, 1023, 0);
        y.sight(10, 1, 1, 0, 0);
        check.storms(y, 0, 0, 0, 0, -1);
        y.untell(0);
        y.sight(10, 1, 0, 0, 0);
        check.storms(y, 0, 1, 0, 1023, 0);
        StraitGame z = ten();
        z.night(0, 0, false);
        check.storms(z, 0, 1, 0, 1023, 0);
        z.sight(10, 1, 1, 0, 0);
        check.storms(z, 0, 1, 0, 1023, 0);
        z.untell(0);
        z.sight(10, 1, 0, 0, 0);
        check.storms(z, 0, 0, 0, 0, -1);
        StraitGame w = new StraitGame();
        NightEdges.sixty(w);
        check.storms(w, 0, 1, 0, 1023, 0);
    }

    private void blanksBetween() {
        check.says(0, "NIGHTS with a flash");
        StraitGame x = Check.play(KINGS);
        x.blank();
        x.night(0, 0, true);
        x.blank();
        x.night(1, 0, true);
        x.blank();
        check.storms(x, 0, 2, 0, 1, 0);
        x.sight(4, 0, 3, -1, 0);
        check.storms(x, 0, 1, 2, 1, 1);
        x.untell(0);
        x.sight(2, 0, 3, -1, 0);
        check.storms(x, 0, 2, 0, 1, 0);
    }

    private void byTurn() {
        check.says(0, "where a flasher could not make that MOVE on his BOARD, by turn or by number, it can't be");
        StraitGame x = flashed(true);
        x.night(1, 0, true);
        x.sight(0, 1, 0, 0, 0);
        check.storms(x, 0, 0, 0, 0, -1);
        x.undo();
        check.storms(x, 0, 1, 1, 0, 1);
    }

    private void noSets() {
        check.says(27, "(0 without sets), 3: the fewest lost (NONE)");
        StraitGame x = flashed(false);
        x.sight(0, 0, 0, 0, 0);
        check.storms(x, 0, 0, 0, 0, -1);
        check.storms(x, -1, 2, 0, 0, 0);
    }

    private void anyTime() {
        check.says(0, "TOLD at a TIME (0 at first, goes on)");
        StraitGame x = flashed(false);
        x.sight(0, 1, 0, 0, 0);
        check.storms(x, FAR[0], 2, 0, 0, 0);
        check.storms(x, FAR[1], 1, 1, 0, 1);
        check.storms(x, 100001, 1, 1, 0, 1);
        x.untell(0);
        check.storms(x, FAR[0], 2, 0, 0, 0);
        check.storms(x, FAR[1], 2, 0, 0, 0);
    }

    private void otherWhat() {
        check.says(27, "-2 for another what.");
        StraitGame x = flashed(false);
        for (int what : new int[] {-1, 4, 5, FAR[0], FAR[1]}) {
            for (int k : new int[] {0, -1, 1, FAR[0], FAR[1]}) {
                check.due("storms(" + what + ", " + k + ")", x.storms(what, k), -2);
            }
        }
    }
}
