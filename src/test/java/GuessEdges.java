/** COULD, LAWFUL and CODE at their limits: promises 19 to 23. */
final class GuessEdges {
    private static final int[] NO_KEEPERS = {-1, 2, Integer.MIN_VALUE, Integer.MAX_VALUE};
    private static final String KINGS = "board 4 by 2;piece k king leap 1 0;white k at 0 0;black k at 3 1;";

    private final Check check;

    GuessEdges(Check check) {
        this.check = check;
    }

    void run() {
        nothingFlashed();
        ownLatest();
        elderOnes();
        notHeard();
        couldRefused();
        lawfuls();
        lawfulByLost();
        lawfulAlways();
        lawfulRefused();
        lawfulAts();
        changesNothing();
        noFlash();
        oneAlone();
        twoToTwelve();
        likeOnes();
        mostFlashes();
        lengthsRefused();
    }

    private void could(StraitGame x, int white, int black) {
        check.due("could(0)", x.could(0), white);
        check.due("could(1)", x.could(1), black);
    }

    private void nothingFlashed() {
        check.says(19, "How many unlike BOARDS it COULD be, as a keeper sees it");
        could(new StraitGame(), 1, 1);
        StraitGame x = Check.play(KINGS);
        could(x, 1, 1);
        x.blank();
        could(x, 1, 1);
        StraitGame y = new StraitGame();
        NightEdges.sixty(y);
        could(y, 1, 2);
    }

    private void ownLatest() {
        check.says(0, "if each of his own latest six flashes was lost or heard (elder ones as they were)");
        StraitGame x = Check.play(KINGS);
        x.night(0, 0, true);
        could(x, 2, 1);
        x.undo();
        x.night(0, 0, false);
        could(x, 2, 1);
        x.undo();
        could(x, 1, 1);
        x.redo();
        x.blank();
        could(x, 2, 1);
    }

    /** Six flashes of each, then a seventh: the elder ones were answered, so they were heard. */
    private void elderOnes() {
        check.says(0, "the other one made there the MOVE of each number that he heard (if it is not that one's turn there, or there is no such MOVE, that can't be)");
        StraitGame x = Check.play(KINGS);
        for (int n = 0; n < 16; n++) {
            int keeper = n % 2;
            x.night(keeper, n % 4 < 2 ? 0 : x.moves(keeper) - 1, true);
            could(x, keeper == 0 ? 2 : 1, keeper == 0 ? 1 : 2);
        }
    }

    private void notHeard() {
        check.says(0, "a flash that he did not hear is none");
        StraitGame x = Check.play(KINGS);
        x.night(0, 0, true);
        x.night(1, 0, false);
        could(x, 2, 2);
        x.undo();
        x.night(1, 0, true);
        could(x, 1, 2);
        StraitGame y = Check.play(KINGS);
        y.night(0, 0, false);
        could(y, 2, 1);
    }

    private void couldRefused() {
        check.says(19, "NONE if there is none such.");
        StraitGame x = Check.play(KINGS);
        for (int keeper : NO_KEEPERS) {
            check.due("could(" + keeper + ")", x.could(keeper), -1);
        }
    }

    private void lawfuls() {
        check.says(20, "LAWFUL: how many MOVES");
        check.due("lawful(0) of an empty GAME", new StraitGame().lawful(0), 0);
        StraitGame x = Check.play(KINGS);
        check.due("lawful(0)", x.lawful(0), 2);
        check.due("lawful(1): it is not his turn", x.lawful(1), 0);
        x.night(0, 0, true);
        check.due("lawful(0): not his turn", x.lawful(0), 0);
        check.due("lawful(1)", x.lawful(1), 2);
        x.night(1, 0, true);
        check.due("lawful(0)", x.lawful(0), 3);
        check.due("lawful(1)", x.lawful(1), 0);
        x.undo();
        x.night(1, 0, false);
        check.due("lawful(0): his turn is not known to him", x.lawful(0), 0);
        check.due("lawful(1)", x.lawful(1), 0);
    }

    private void lawfulByLost() {
        check.says(0, "MOVES (from, to) that keeper's SIDE has now on his BOARD that are lawful on each BOARD it COULD be, by from and to, too (it must be his SIDE's turn there)");
        StraitGame x = Check.play("board 2 by 1;piece k king leap 1 0;white k at 0 0;black k at 1 0;");
        check.due("lawful(0)", x.lawful(0), 1);
        x.night(0, 0, true);
        check.due("lawful(1): black has LOST", x.lawful(1), 0);
        check.due("lawful(0)", x.lawful(0), 0);
        StraitGame y = Check.play("board 3 by 1;piece a leap 1 0;piece b;white b at 0 0;black a at 2 0;");
        check.due("lawful(0): no MOVE", y.lawful(0), 0);
        check.due("lawful(1): black's, but white's turn", y.lawful(1), 0);
    }

    /** Each call is answered by what stands now, whatever was asked before it. */
    private void lawfulAlways() {
        check.says(20, "LAWFUL");
        StraitGame x = Check.play(KINGS);
        x.night(0, 0, true);
        check.due("could(0)", x.could(0), 2);
        x.night(1, 0, true);
        check.due("lawful(0)", x.lawful(0), 3);
        check.due("could(1)", x.could(1), 2);
        check.due("lawful(0): the other one was asked of", x.lawful(0), 3);
        StraitGame y = Check.play(KINGS);
        y.night(0, 0, true);
        check.due("could(0)", y.could(0), 2);
        y.night(1, 0, true);
        check.due("lawfulAt(0, 2)", y.lawfulAt(0, 2), 2);
        check.due("could(1)", y.could(1), 2);
        check.due("lawfulAt(0, 2)", y.lawfulAt(0, 2), 2);
    }

    private void lawfulRefused() {
        check.says(20, "NONE if there is no such keeper.");
        StraitGame x = Check.play(KINGS);
        for (int keeper : NO_KEEPERS) {
            check.due("lawful(" + keeper + ")", x.lawful(keeper), -1);
        }
    }

    private void lawfulAts() {
        StraitGame x = Check.play(KINGS);
        x.night(0, 0, true);
        x.night(1, 0, true);
        check.says(21, "The i-th of these: its number on his BOARD");
        for (int i = 0; i < 3; i++) {
            check.due("lawfulAt(0, " + i + ")", x.lawfulAt(0, i), i);
        }
        check.says(21, "NONE if there is none such.");
        for (int i : new int[] {-1, 3, 4, Integer.MIN_VALUE, Integer.MAX_VALUE}) {
            check.due("lawfulAt(0, " + i + ")", x.lawfulAt(0, i), -1);
        }
        check.due("lawfulAt(1, 0): not his turn", x.lawfulAt(1, 0), -1);
        for (int keeper : NO_KEEPERS) {
            check.due("lawfulAt(" + keeper + ", 0)", x.lawfulAt(keeper, 0), -1);
        }
        StraitGame y = Check.play("board 5 by 6;piece r ride 1 0;white r at 4 5;white r at 0 0;black r at 2 2;");
        check.due("lawful(0)", y.lawful(0), 18);
        check.due("lawfulAt(0, 17): the last", y.lawfulAt(0, 17), 17);
        check.due("lawfulAt(0, 18)", y.lawfulAt(0, 18), -1);
    }

    private void changesNothing() {
        check.says(19, "as a keeper sees it");
        Twins.same(check, "asking", y -> {
            Check.put(y, KINGS + "flash 1 2;");
            y.game();
            y.night(0, 0, true);
            y.night(1, 1, true);
            y.night(0, 1, false);
            y.undo();
        }, y -> {
            for (int keeper = -1; keeper <= 2; keeper++) {
                y.could(keeper);
                y.lawful(keeper);
                y.lawfulAt(keeper, 1);
                y.value(keeper, 4);
                y.moves(keeper);
                y.move(keeper, 0, 2);
                y.storms(keeper, 0);
            }
        });
    }

    /** What is told behind flash, the sum, and each one's LENGTH. */
    private void code(String often, int sum, String lengths) {
        StraitGame x = Check.play("board 1 by 1;flash " + often + ";");
        String[] each = lengths.split(" ");
        check.due("code() of " + often, x.code(), sum);
        check.due("about(8) of " + often, x.about(8), each.length);
        for (int i = 0; i < each.length; i++) {
            check.due("length(" + i + ") of " + often, x.length(i), Integer.parseInt(each[i]));
        }
        check.due("length(" + each.length + ") of " + often, x.length(each.length), -1);
    }

    private void noFlash() {
        check.says(22, "CODE: how many flashes all told together take (0 without flash).");
        check.due("code() of an empty GAME", new StraitGame().code(), 0);
        StraitGame x = Check.play(KINGS);
        check.due("code()", x.code(), 0);
        check.due("length(0)", x.length(0), -1);
        StraitGame y = Check.play("board 1 by 1;flash 7 8 9;");
        check.due("code()", y.code(), 39);
        Check.put(y, "board 1 by 1;");
        y.game();
        check.due("code(): another GAME", y.code(), 0);
        check.due("length(0)", y.length(0), -1);
    }

    private void oneAlone() {
        check.says(0, "(One alone: 1 flash.)");
        code("1", 1, "1");
        code("999", 999, "1");
    }

    private void twoToTwelve() {
        check.says(0, "no one's the beginning of another's, all told together of fewest flashes (how often times how many)");
        code("1 1", 2, "1 1");
        code("999 1", 1000, "1 1");
        code("1 999", 1000, "1 1");
        code("1 1 1", 5, "1 2 2");
        code("3 2 1", 9, "1 2 2");
        code("1 2 3", 9, "2 2 1");
        code("1 1 1 1", 8, "2 2 2 2");
        code("1 1 1 1 1 1 1 1", 24, "3 3 3 3 3 3 3 3");
        code("1 1 1 1 1 1 1 1 1 1 1 1", 44, "3 3 3 3 4 4 4 4 4 4 4 4");
        code("999 999 999 999 999 999 999 999 999 999 999 999", 43956, "3 3 3 3 4 4 4 4 4 4 4 4");
    }

    private void likeOnes() {
        check.says(0, "LENGTHS, of like ones the least for the first, then for the second, and so on.");
        code("1 1 2 2", 12, "2 2 2 2");
        code("2 2 1 1", 12, "1 2 3 3");
        code("2 1 1 2", 12, "1 3 3 2");
        code("1 2 2 1", 12, "2 2 2 2");
        code("1 2 1 2", 12, "2 2 2 2");
        code("2 1 2 1", 12, "1 3 2 3");
        code("1 1 1", 5, "1 2 2");
        code("5 5 5 5 5", 60, "2 2 2 3 3");
        code("3 1 1 1 3", 20, "1 3 4 4 2");
    }

    private void mostFlashes() {
        check.says(0, "how often moves are flashed (1 to 12 numbers, 1 .. 999)");
        code("1 1 2 3 5 8 13 21 34 55 89 144", 971, "11 11 10 9 8 7 6 5 4 3 2 1");
        code("512 256 128 64 32 16 8 4 2 1 1 999", 4069, "2 3 4 5 6 7 8 9 10 11 11 1");
    }

    private void lengthsRefused() {
        check.says(23, "Of a told number its LENGTH; NONE if there is none such.");
        StraitGame x = Check.play("board 1 by 1;flash 1 1 1 1 1 1 1 1 1 1 1 1;");
        check.due("length(0)", x.length(0), 3);
        check.due("length(11)", x.length(11), 4);
        for (int i : new int[] {-1, 12, 13, Integer.MIN_VALUE, Integer.MAX_VALUE}) {
            check.due("length(" + i + ")", x.length(i), -1);
        }
        StraitGame y = Check.play("board 1 by 1;flash 5;");
        check.due("length(0)", y.length(0), 1);
        check.due("length(1)", y.length(1), -1);
    }
}
