/** Promises 19 to 21: what the other one's BOARD can be, and which MOVES are lawful on each. */
public final class GuessTest {
    private static final Check CHECK = new Check("GuessTest");
    private static final String KINGS = "board 4 by 2;piece k king leap 1 0;white k at 0 0;black k at 3 1;";

    public static void main(String[] args) {
        atFirst();
        ownFlash();
        answered();
        manyFlashes();
        lastLost();
        wrongOnes();
        CHECK.end();
    }

    private static void atFirst() {
        StraitGame x = Check.play(KINGS);
        CHECK.due("could(0)", x.could(0), 1);
        CHECK.due("could(1)", x.could(1), 1);
        CHECK.due("lawful(0)", x.lawful(0), 2);
        CHECK.due("lawfulAt(0, 1)", x.lawfulAt(0, 1), 1);
        CHECK.due("lawful(1): not his turn", x.lawful(1), 0);
        x.blank();
        CHECK.due("could(0)", x.could(0), 1);
        CHECK.due("lawful(0)", x.lawful(0), 2);
    }

    private static void ownFlash() {
        StraitGame x = Check.play(KINGS);
        x.night(0, 0, true);
        CHECK.due("could(0): lost or heard", x.could(0), 2);
        CHECK.due("could(1): he heard it", x.could(1), 1);
        CHECK.due("lawful(0)", x.lawful(0), 0);
        CHECK.due("lawful(1)", x.lawful(1), 2);
        x.undo();
        x.night(0, 0, false);
        CHECK.due("could(0)", x.could(0), 2);
        CHECK.due("could(1): none for him", x.could(1), 1);
        CHECK.due("lawful(0)", x.lawful(0), 0);
        CHECK.due("lawful(1): it is not his turn on his BOARD", x.lawful(1), 0);
    }

    /** An answer that he heard tells him that his flash was heard. */
    private static void answered() {
        StraitGame x = Check.play(KINGS);
        x.night(0, 0, true);
        x.night(1, 0, true);
        CHECK.due("could(0)", x.could(0), 1);
        CHECK.due("could(1)", x.could(1), 2);
        CHECK.due("lawful(0)", x.lawful(0), 3);
        for (int i = 0; i < 3; i++) {
            CHECK.due("lawfulAt(0, " + i + ")", x.lawfulAt(0, i), i);
        }
        CHECK.due("lawfulAt(0, 3)", x.lawfulAt(0, 3), -1);
        CHECK.due("lawful(1)", x.lawful(1), 0);
        CHECK.due("lawfulAt(1, 0)", x.lawfulAt(1, 0), -1);
    }

    private static void manyFlashes() {
        StraitGame x = Check.play(KINGS);
        for (int n = 0; n < 28; n++) {
            int keeper = n % 2;
            CHECK.due("NIGHT " + n, x.night(keeper, n % 4 < 2 ? 0 : x.moves(keeper) / 2, true), n);
            CHECK.due("could of the flasher", x.could(keeper), 2);
            CHECK.due("could of the hearer", x.could(1 - keeper), 1);
            CHECK.due("lawful of the hearer", x.lawful(1 - keeper), x.moves(1 - keeper));
        }
    }

    private static void lastLost() {
        StraitGame x = Check.play(KINGS);
        x.night(0, 0, true);
        x.night(1, 0, false);
        x.blank();
        CHECK.due("could(0): he heard nothing since", x.could(0), 2);
        CHECK.due("could(1)", x.could(1), 2);
        CHECK.due("lawful(0): his turn only if heard", x.lawful(0), 0);
    }

    private static void wrongOnes() {
        StraitGame x = Check.play(KINGS);
        CHECK.due("could(2)", x.could(2), -1);
        CHECK.due("could(-1)", x.could(-1), -1);
        CHECK.due("lawful(2)", x.lawful(2), -1);
        CHECK.due("lawful(-1)", x.lawful(-1), -1);
        CHECK.due("lawfulAt(2, 0)", x.lawfulAt(2, 0), -1);
        CHECK.due("lawfulAt(0, -1)", x.lawfulAt(0, -1), -1);
        CHECK.due("lawfulAt(0, 2)", x.lawfulAt(0, 2), -1);
        CHECK.due("lawfulAt(0, MAX)", x.lawfulAt(0, Integer.MAX_VALUE), -1);
    }
}
