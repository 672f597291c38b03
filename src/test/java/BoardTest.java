/** Promises 6 to 11: BOARDS, MOVES, who has LOST, VALUE. */
public final class BoardTest {
    private static final Check CHECK = new Check("BoardTest");

    public static void main(String[] args) {
        standing();
        leaps();
        rides();
        nightRides();
        forwards();
        eachOnce();
        wrongMoves();
        lostKings();
        noKings();
        values();
        spent();
        CHECK.end();
    }

    private static void standing() {
        StraitGame x = Check.play("board 2 by 3;piece a;piece b king;white b at 1 0;black a at 0 2;black b at 1 1;");
        int[] due = {-1, 2, -1, 3, 1, -1};
        for (int keeper = 0; keeper < 2; keeper++) {
            for (int square = 0; square < 6; square++) {
                CHECK.due("at(" + keeper + ", " + square + ")", x.at(keeper, square), due[square]);
            }
        }
        CHECK.due("at(0, 6)", x.at(0, 6), -1);
        CHECK.due("at(0, -1)", x.at(0, -1), -1);
        CHECK.due("at(2, 1)", x.at(2, 1), -1);
        CHECK.due("at(-1, 1)", x.at(-1, 1), -1);
        CHECK.due("turn(0)", x.turn(0), 0);
        CHECK.due("turn(1)", x.turn(1), 0);
        CHECK.due("turn(-1)", x.turn(-1), -1);
        CHECK.due("moves(0)", x.moves(0), 0);
        CHECK.due("moves(2)", x.moves(2), -1);
        CHECK.due("lost(0)", x.lost(0), 0);
        CHECK.due("lost(-1)", x.lost(-1), -2);
    }

    private static void leaps() {
        String knight = "board 5 by 5;piece n leap 1 2;white n at 2 2;";
        CHECK.moves(Check.play(knight), "12>1 12>3 12>5 12>9 12>15 12>19 12>21 12>23");
        CHECK.moves(Check.play(knight + "white n at 1 0;black n at 3 0;"),
            "1>8 1>10 12>3 12>5 12>9 12>15 12>19 12>21 12>23");
        StraitGame x = Check.play(knight + "black n at 3 0;");
        CHECK.due("move(0, 1, 2)", x.move(0, 1, 2), 1);
        CHECK.due("move(0, 0, 2)", x.move(0, 0, 2), -1);
        CHECK.moves(Check.play("board 5 by 1;piece a leap 0 4;white a at 0 0;"), "0>4");
        CHECK.moves(Check.play("board 3 by 3;piece a leap 1 0 leap 1 1;white a at 0 0;"), "0>1 0>3 0>4");
    }

    private static void rides() {
        CHECK.moves(Check.play("board 4 by 3;piece r ride 1 0;white r at 1 1;black r at 3 1;white r at 1 2;"),
            "5>1 5>4 5>6 5>7 9>8 9>10 9>11");
        CHECK.moves(Check.play("board 5 by 6;piece r ride 0 2;white r at 0 0;"), "0>2 0>4 0>10 0>20");
        CHECK.moves(Check.play("board 5 by 6;piece r ride 0 2;white r at 0 0;black r at 1 0;black r at 2 0;"), "0>2 0>10 0>20");
        CHECK.moves(Check.play("board 4 by 4;piece b ride 1 1;white b at 0 0;black b at 2 2;"), "0>5 0>10");
    }

    private static void nightRides() {
        CHECK.moves(Check.play("board 5 by 6;piece n ride 1 2;white n at 0 0;"), "0>7 0>11 0>14 0>22");
        CHECK.moves(Check.play("board 5 by 6;piece n ride 1 2;piece o;white n at 0 0;white o at 1 2;black o at 2 1;"), "0>7");
    }

    private static void forwards() {
        String board = "board 3 by 3;piece p forward;";
        CHECK.moves(Check.play(board + "white p at 1 1;"), "4>7");
        CHECK.moves(Check.play(board + "white p at 1 1;black p at 1 2;"), "");
        CHECK.moves(Check.play(board + "white p at 1 1;black p at 0 2;black p at 2 2;"), "4>6 4>7 4>8");
        CHECK.moves(Check.play(board + "white p at 1 1;black p at 0 2;white p at 2 2;"), "4>6 4>7");
        CHECK.moves(Check.play(board + "white p at 1 2;black p at 0 1;"), "");
        StraitGame x = Check.play(board + "white p at 1 0;black p at 1 2;black p at 0 2;");
        CHECK.due("night(0, 0, true)", x.night(0, 0, true), 0);
        CHECK.moves(x, "6>3 6>4");
        CHECK.due("move(1, 1, 2)", x.move(1, 1, 2), 0);
        CHECK.due("night(1, 0, true)", x.night(1, 0, true), 1);
        CHECK.moves(x, "");
        CHECK.due("lost(0): blocked", x.lost(0), 0);
        x.undo();
        CHECK.due("night(1, 1, true)", x.night(1, 1, true), 1);
        CHECK.due("at(0, 4)", x.at(0, 4), 1);
        CHECK.due("at(0, 6)", x.at(0, 6), -1);
    }

    private static void eachOnce() {
        CHECK.moves(Check.play("board 3 by 1;piece a leap 1 0 leap 0 1 ride 0 1 ride 1 0 leap 2 0;white a at 0 0;"), "0>1 0>2");
        CHECK.moves(Check.play("board 1 by 2;piece a leap 1 0 forward;white a at 0 0;"), "0>1");
    }

    private static void wrongMoves() {
        StraitGame x = Check.play("board 1 by 2;piece a forward;white a at 0 0;");
        CHECK.due("move(0, 0, 0)", x.move(0, 0, 0), 0);
        CHECK.due("move(0, 0, 1)", x.move(0, 0, 1), 1);
        CHECK.due("move(0, 0, 2)", x.move(0, 0, 2), -1);
        CHECK.due("move(0, 0, 3)", x.move(0, 0, 3), -2);
        CHECK.due("move(0, 0, -1)", x.move(0, 0, -1), -2);
        CHECK.due("move(0, 1, 0)", x.move(0, 1, 0), -2);
        CHECK.due("move(0, -1, 0)", x.move(0, -1, 0), -2);
        CHECK.due("move(2, 0, 0)", x.move(2, 0, 0), -2);
        CHECK.due("move(0, MIN, 0)", x.move(0, Integer.MIN_VALUE, 0), -2);
    }

    private static void lostKings() {
        StraitGame x = Check.play("board 3 by 1;piece k king leap 1 0;white k at 0 0;black k at 1 0;black k at 2 0;");
        CHECK.due("lost(0)", x.lost(0), -1);
        x.night(0, 0, true);
        CHECK.due("lost(0): a king is left", x.lost(0), -1);
        CHECK.moves(x, "2>1");
        x.night(1, 0, true);
        CHECK.due("lost(0): white has none", x.lost(0), 0);
        CHECK.due("lost(1)", x.lost(1), 0);
        CHECK.due("turn(0)", x.turn(0), 0);
        CHECK.moves(x, "");
        StraitGame y = Check.play("board 3 by 1;piece k king leap 1 0;piece a leap 1 0;white k at 0 0;black k at 1 0;black a at 2 0;");
        y.night(0, 0, true);
        CHECK.due("moves(0): black has none", y.moves(0), 0);
        CHECK.due("lost(0)", y.lost(0), 1);
        CHECK.due("value(0, 4)", y.value(0, 4), -1);
    }

    private static void noKings() {
        StraitGame x = Check.play("board 2 by 1;piece a leap 1 0;white a at 0 0;black a at 1 0;");
        x.night(0, 0, true);
        CHECK.due("lost(0): black has no MAN", x.lost(0), 1);
        CHECK.due("turn(0)", x.turn(0), 1);
        StraitGame y = Check.play("board 3 by 1;piece k king leap 1 0;piece a leap 1 0;white a at 0 0;black k at 2 0;");
        CHECK.due("lost(0): white never had a king", y.lost(0), -1);
        StraitGame z = Check.play("board 2 by 2;piece k king;piece a leap 1 0;white k at 0 0;black a at 1 1;");
        CHECK.due("lost(0): white can't move", z.lost(0), 0);
        CHECK.due("value(0, 0)", z.value(0, 0), -1);
    }

    private static void values() {
        StraitGame x = Check.play("board 3 by 3;piece k king leap 1 0;white k at 0 0;black k at 1 0;");
        CHECK.due("value(0, 0)", x.value(0, 0), 0);
        CHECK.due("value(0, 1)", x.value(0, 1), 1);
        CHECK.due("value(1, 1)", x.value(1, 1), 1);
        CHECK.due("value(0, -1)", x.value(0, -1), -3);
        CHECK.due("value(0, 5)", x.value(0, 5), -3);
        CHECK.due("value(2, 1)", x.value(2, 1), -3);
        // White's one king must step beside the black one, that takes it.
        StraitGame y = Check.play("board 3 by 1;piece k king leap 1 0;white k at 0 0;black k at 2 0;");
        CHECK.due("value(0, 1)", y.value(0, 1), 0);
        CHECK.due("value(0, 2)", y.value(0, 2), -1);
        // One step more and the pawns stand head to head.
        StraitGame z = Check.play("board 1 by 4;piece p forward;white p at 0 0;black p at 0 3;");
        CHECK.due("value(0, 1)", z.value(0, 1), 0);
        CHECK.due("value(0, 2)", z.value(0, 2), -1);
        z.night(0, 0, true);
        CHECK.due("value(0, 0)", z.value(0, 0), 0);
        CHECK.due("value(0, 1)", z.value(0, 1), 1);
        StraitGame w = Check.play("board 5 by 1;piece k king leap 1 0;white k at 0 0;black k at 3 0;");
        CHECK.due("value(0, 2)", w.value(0, 2), 0);
        CHECK.due("value(0, 3)", w.value(0, 3), 0);
        CHECK.due("value(0, 4)", w.value(0, 4), 0);
    }

    /** As many POSITIONS come to as these have (found by counting): 30,000 is not SPENT, 30,001 is. */
    private static void spent() {
        StraitGame x = Check.play("board 5 by 6;piece a leap 3 1 ride 3 2;white a at 0 3;black a at 3 3;white a at 3 4;"
            + "black a at 1 4;white a at 3 5;");
        CHECK.due("value(0, 4) by 30,000", x.value(0, 4), 0);
        StraitGame y = Check.play("board 5 by 6;piece a leap 0 4 leap 0 2;white a at 2 2;black a at 2 1;white a at 3 1;"
            + "black a at 3 4;white a at 2 3;black a at 4 1;white a at 2 5;black a at 3 5;white a at 1 1;");
        CHECK.due("value(0, 4) by 30,001", y.value(0, 4), -2);
        CHECK.due("value(0, 3)", y.value(0, 3), 0);
        StraitGame z = Check.play("board 5 by 6;piece q ride 1 0 ride 1 1;white q at 0 0;white q at 1 0;white q at 2 0;"
            + "black q at 0 5;black q at 1 5;black q at 2 5;");
        CHECK.due("value(0, 4)", z.value(0, 4), -2);
    }
}
