/** POSITIONS, MOVES and VALUE at their limits, and promises 6 to 11 at theirs. */
final class BoardEdges {
    private static final int[] NO_KEEPERS = {-1, 2, Integer.MIN_VALUE, Integer.MAX_VALUE};
    private static final String KINGS = "board 2 by 2;piece k king leap 1 0;white k at 0 0;black k at 1 1;";

    private final Check check;

    BoardEdges(Check check) {
        this.check = check;
    }

    void run() {
        whiteFirst();
        leaps();
        leapsAtEdges();
        rides();
        ridesAtEdges();
        forwards();
        forwardsAtEdges();
        taking();
        eachPieceGoes();
        waysOfEach();
        numbering();
        kings();
        kingsOrNot();
        noMove();
        valuesOfLost();
        valuesAhead();
        tillOne();
        spent();
        at();
        turn();
        moves();
        move();
        lost();
        value();
    }

    private void moves(String text, String want) {
        check.moves(Check.play(text), want);
    }

    /** The MOVES that black has, when white has made its first. */
    private void blackMoves(String text, String want) {
        StraitGame x = Check.play(text);
        check.due("night(0, 0, true)", x.night(0, 0, true), 0);
        check.moves(x, want);
    }

    private void whiteFirst() {
        check.says(0, "a SIDE to move (0 white, 1 black; white at first)");
        StraitGame x = Check.play("board 2 by 2;piece a leap 1 0;black a at 0 0;");
        check.due("turn(0)", x.turn(0), 0);
        check.due("turn(1)", x.turn(1), 0);
        check.due("moves(0): black's are none", x.moves(0), 0);
        check.says(0, "A MOVE leaves the other SIDE to move.");
        StraitGame y = Check.play(KINGS);
        y.night(0, 0, true);
        check.due("turn(0)", y.turn(0), 1);
        check.due("turn(1)", y.turn(1), 1);
        y.night(1, 1, true);
        check.due("turn(0)", y.turn(0), 0);
        check.due("turn(1)", y.turn(1), 0);
    }

    private void leaps() {
        check.says(0, "by leap a b to each SQUARE that is a files and b ranks, or b files and a ranks off, if none of its own SIDE is there");
        moves("board 5 by 5;piece n leap 1 2;white n at 2 2;", "12>1 12>3 12>5 12>9 12>15 12>19 12>21 12>23");
        moves("board 5 by 5;piece n leap 2 1;white n at 2 2;", "12>1 12>3 12>5 12>9 12>15 12>19 12>21 12>23");
        moves("board 3 by 3;piece f leap 1 1;white f at 1 1;", "4>0 4>2 4>6 4>8");
        moves("board 5 by 6;piece l leap 4 4;white l at 0 0;", "0>24");
        moves("board 5 by 6;piece l leap 0 4;white l at 0 0;", "0>4 0>20");
        moves("board 5 by 6;piece l leap 4 3;white l at 0 0;", "0>19 0>23");
        moves("board 3 by 1;piece w leap 0 1;piece x;white w at 1 0;white x at 0 0;black x at 2 0;", "1>2");
        moves("board 3 by 1;piece d leap 2 0;piece x;white d at 0 0;black x at 1 0;", "0>2");
        moves("board 3 by 1;piece d leap 2 0;piece x;white d at 0 0;white x at 1 0;white x at 2 0;", "");
    }

    private void leapsAtEdges() {
        check.says(0, "MEN on SQUARES");
        moves("board 3 by 3;piece w leap 1 0;white w at 2 1;", "5>2 5>4 5>8");
        moves("board 3 by 3;piece w leap 1 0;white w at 0 1;", "3>0 3>4 3>6");
        moves("board 3 by 3;piece w leap 1 0;white w at 1 0;", "1>0 1>2 1>4");
        moves("board 3 by 3;piece w leap 1 0;white w at 1 2;", "7>4 7>6 7>8");
        moves("board 3 by 3;piece f leap 1 1;white f at 2 0;", "2>4");
        moves("board 3 by 3;piece f leap 1 1;white f at 0 2;", "6>4");
        moves("board 2 by 6;piece n leap 2 1;white n at 1 0;", "1>4");
        moves("board 1 by 1;piece w leap 1 0 ride 1 1 forward;white w at 0 0;", "");
        moves("board 5 by 6;piece w leap 1 0;white w at 4 5;", "29>24 29>28");
        moves("board 2 by 2;piece w leap 4 4 ride 4 4 ride 0 2;white w at 0 0;", "");
    }

    private void rides() {
        check.says(0, "by ride likewise, and on by the same way as long as the SQUARES between are free");
        moves("board 5 by 1;piece r ride 1 0;white r at 0 0;", "0>1 0>2 0>3 0>4");
        moves("board 5 by 1;piece r ride 1 0;piece x;white r at 0 0;black x at 4 0;", "0>1 0>2 0>3 0>4");
        moves("board 5 by 1;piece r ride 1 0;piece x;white r at 0 0;black x at 2 0;", "0>1 0>2");
        moves("board 5 by 1;piece r ride 1 0;piece x;white r at 0 0;white x at 2 0;", "0>1");
        moves("board 5 by 1;piece r ride 1 0;piece x;white r at 0 0;black x at 1 0;", "0>1");
        moves("board 5 by 1;piece r ride 1 0;piece x;white r at 0 0;white x at 1 0;", "");
        moves("board 5 by 1;piece r ride 0 2;piece x;white r at 0 0;black x at 1 0;black x at 3 0;", "0>2 0>4");
        moves("board 5 by 1;piece r ride 0 2;piece x;white r at 0 0;black x at 2 0;", "0>2");
        moves("board 1 by 6;piece r ride 1 0;white r at 0 0;", "0>1 0>2 0>3 0>4 0>5");
        moves("board 5 by 6;piece n ride 2 1;white n at 0 0;", "0>7 0>11 0>14 0>22");
        moves("board 5 by 6;piece n ride 2 1;piece x;white n at 0 0;black x at 1 2;", "0>7 0>11 0>14");
        moves("board 5 by 6;piece r ride 4 3;white r at 4 0;", "4>15 4>21");
    }

    private void ridesAtEdges() {
        check.says(0, "on by the same way");
        moves("board 3 by 3;piece r ride 1 0;white r at 1 1;", "4>1 4>3 4>5 4>7");
        moves("board 3 by 3;piece r ride 1 0;white r at 2 0;", "2>0 2>1 2>5 2>8");
        moves("board 3 by 3;piece b ride 1 1;white b at 2 1;", "5>1 5>7");
        moves("board 3 by 3;piece b ride 1 1;white b at 0 0;", "0>4 0>8");
        moves("board 3 by 3;piece b ride 1 1;white b at 1 0;", "1>3 1>5");
        moves("board 5 by 6;piece b ride 1 1;white b at 4 5;", "29>5 29>11 29>17 29>23");
    }

    private void forwards() {
        String board = "board 3 by 3;piece p forward;";
        check.says(0, "by forward to the next rank (white: up, black: down) of its file, if that is free");
        moves(board + "white p at 1 1;", "4>7");
        moves(board + "white p at 1 1;black p at 1 2;", "");
        moves(board + "white p at 1 1;white p at 1 2;", "");
        blackMoves(board + "white p at 0 0;black p at 2 1;", "5>2");
        blackMoves(board + "white p at 0 0;black p at 2 1;black p at 2 0;", "");
        blackMoves(board + "white p at 0 0;black p at 2 1;white p at 2 0;", "");
        check.says(0, "to the next rank of both files beside, if one of the other SIDE is there");
        moves(board + "white p at 1 0;black p at 0 1;black p at 2 1;black p at 1 1;", "1>3 1>5");
        moves(board + "white p at 1 0;black p at 0 1;", "1>3 1>4");
        moves(board + "white p at 1 0;black p at 2 1;", "1>4 1>5");
        moves(board + "white p at 1 0;white p at 0 1;white p at 1 1;", "3>6 4>7");
        moves(board + "white p at 1 1;black p at 0 0;black p at 2 0;black p at 1 2;", "");
        blackMoves("board 5 by 3;piece p forward;white p at 0 0;black p at 3 2;white p at 2 2;white p at 4 2;", "13>8");
        blackMoves("board 5 by 3;piece p forward;white p at 0 0;black p at 3 2;white p at 2 1;white p at 4 1;", "13>7 13>8 13>9");
    }

    private void forwardsAtEdges() {
        String board = "board 3 by 4;piece p forward;";
        check.says(0, "(white: up, black: down)");
        moves(board + "white p at 0 3;white p at 1 3;white p at 2 3;", "");
        blackMoves(board + "white p at 0 1;black p at 0 0;black p at 1 0;black p at 2 0;", "");
        // File 0 has nothing beside it on the left: not the other edge's SQUARE, whose number is next.
        moves(board + "white p at 0 1;black p at 0 2;black p at 2 1;black p at 2 2;", "");
        moves(board + "white p at 2 1;black p at 2 2;black p at 0 2;black p at 0 3;", "");
        blackMoves(board + "white p at 2 1;white p at 2 0;white p at 0 1;black p at 0 2;", "");
        blackMoves("board 2 by 4;piece p forward;white p at 0 0;black p at 1 3;white p at 1 2;white p at 0 3;", "");
        moves("board 1 by 6;piece p forward;white p at 0 0;black p at 0 5;", "0>1");
        moves("board 1 by 1;piece p forward;white p at 0 0;", "");
        moves("board 5 by 6;piece p forward;white p at 4 4;black p at 3 5;", "24>28 24>29");
    }

    private void taking() {
        check.says(0, "Where one of the other SIDE is, that goes.");
        StraitGame x = Check.play("board 2 by 1;piece a leap 1 0;piece b leap 1 0;white b at 0 0;black a at 1 0;");
        check.due("move(0, 0, 2)", x.move(0, 0, 2), 1);
        x.night(0, 0, true);
        for (int keeper = 0; keeper < 2; keeper++) {
            check.due("at: whence it came", x.at(keeper, 0), -1);
            check.due("at: who took", x.at(keeper, 1), 2);
            check.due("lost", x.lost(keeper), 1);
        }
    }

    /** Six PIECES: each goes as itself, and takes another one. */
    private void eachPieceGoes() {
        check.says(0, "that goes.");
        String six = "board 2 by 2;piece a leap 1 0;piece b leap 1 0;piece c leap 1 0;piece d leap 1 0;piece e leap 1 0;piece f leap 1 0;";
        for (int own = 0; own < 6; own++) {
            for (int other = 0; other < 6; other++) {
                StraitGame x = Check.play(six + "white " + (char) ('a' + own) + " at 0 0;black " + (char) ('a' + other) + " at 1 0;");
                check.due("move(0, 0, 2)", x.move(0, 0, 2), 2 * other + 1);
                check.due("night(0, 1, true)", x.night(0, 1, true), 0);
                check.due("at(0, 0)", x.at(0, 0), -1);
                check.due("at(1, 2)", x.at(1, 2), 2 * own);
                check.due("night(1, 0, true)", x.night(1, 0, true), 1);
                check.due("at(0, 0)", x.at(0, 0), 2 * other + 1);
                check.due("at(1, 1)", x.at(1, 1), -1);
                check.due("night(0, 0, true)", x.night(0, 0, true), 2);
                check.due("at(0, 0)", x.at(0, 0), 2 * own);
                check.due("lost(0)", x.lost(0), 1);
            }
        }
    }

    /** A PIECE has its own ways alone, even with as many as can be, and as many turns of them. */
    private void waysOfEach() {
        check.says(0, "each 6 at most of leap, ride: 0 .. 4 each, not 0 0; forward once");
        String next = "piece b leap 0 1 ride 1 1 forward;";
        moves("board 5 by 6;piece a leap 1 2 leap 1 3 leap 1 4 leap 2 3 leap 2 4 leap 3 4;" + next + "white a at 0 0;",
            "0>7 0>8 0>9 0>11 0>13 0>14 0>16 0>17 0>19 0>21 0>22 0>23");
        moves("board 5 by 6;piece a ride 1 2 ride 1 3 ride 1 4 ride 2 3 ride 2 4 ride 3 4;" + next + "white a at 2 2;",
            "12>1 12>3 12>5 12>9 12>15 12>19 12>21 12>23 12>25 12>26 12>28 12>29");
        moves("board 3 by 3;" + next + "piece a;white a at 0 0;", "");
        moves("board 3 by 3;piece a;" + next + "white a at 0 0;", "");
        moves("board 3 by 3;piece a;" + next + "white b at 0 0;", "0>1 0>3 0>4 0>8");
    }

    private void numbering() {
        check.says(0, "(from, to), each once, numbered by from, then to, from 0 on: of the SIDE to move");
        moves("board 3 by 1;piece a leap 1 0 leap 0 1 ride 0 1 ride 1 0 leap 2 0;white a at 0 0;", "0>1 0>2");
        moves("board 2 by 2;piece a leap 0 1 leap 1 0 forward ride 1 0;white a at 0 0;", "0>1 0>2");
        moves("board 3 by 2;piece a forward leap 1 1;black a at 0 1;white a at 1 0;", "1>3 1>4 1>5");
        moves("board 5 by 6;piece r ride 1 0;white r at 4 5;white r at 0 0;black r at 2 2;",
            "0>1 0>2 0>3 0>4 0>5 0>10 0>15 0>20 0>25 29>4 29>9 29>14 29>19 29>24 29>25 29>26 29>27 29>28");
    }

    private void kings() {
        String board = "board 4 by 1;piece k king leap 1 0;piece a leap 1 0;";
        check.says(0, "none, if a SIDE that had a king (or more) at first has none any more: it has LOST");
        StraitGame x = Check.play(board + "white a at 0 0;black k at 1 0;black a at 3 0;");
        check.due("lost(0)", x.lost(0), -1);
        x.night(0, 0, true);
        check.due("lost(0): black's only king went", x.lost(0), 1);
        check.due("moves(0)", x.moves(0), 0);
        check.due("move(0, 0, 0)", x.move(0, 0, 0), -2);
        check.due("night(1, 0, true)", x.night(1, 0, true), -1);
        StraitGame y = Check.play(board + "white a at 0 0;black k at 1 0;black k at 3 0;");
        y.night(0, 0, true);
        check.due("lost(0): one of two kings went", y.lost(0), -1);
        check.moves(y, "3>2");
        StraitGame z = Check.play(board + "white a at 0 0;black k at 2 0;");
        check.due("lost(0): white had none at first", z.lost(0), -1);
        check.due("moves(0)", z.moves(0), 1);
        StraitGame w = Check.play(board + "white k at 0 0;white a at 2 0;black a at 1 0;black a at 3 0;");
        w.night(0, 2, true);
        w.night(1, 1, true);
        check.due("lost(0): no king went", w.lost(0), -1);
        w.undo();
        check.due("night(1, 0, true)", w.night(1, 0, true), 1);
        check.due("lost(0): white's only king went", w.lost(0), 0);
        check.due("moves(0)", w.moves(0), 0);
    }

    /** Whether a MAN is a king goes by its PIECE, not by its SQUARE. */
    private void kingsOrNot() {
        check.says(0, "a SIDE that had a king (or more) at first");
        String board = "board 3 by 2;piece k king leap 1 0;piece a leap 1 0;";
        StraitGame x = Check.play(board + "white a at 0 0;white a at 2 1;black a at 0 1;black k at 2 0;");
        x.night(0, 0, true);
        check.due("at(0, 1)", x.at(0, 1), 2);
        x.night(1, 0, true);
        check.due("at(0, 1): black's king took it", x.at(0, 1), 1);
        check.due("lost(0): it was no king", x.lost(0), -1);
        StraitGame y = Check.play(board + "white k at 1 0;white a at 0 0;black a at 1 1;black a at 2 1;");
        y.night(0, 0, true);
        check.due("at(0, 3)", y.at(0, 3), 2);
        y.night(1, 0, true);
        check.due("at(0, 1)", y.at(0, 1), 3);
        check.due("lost(0): the king went, the other MAN stands", y.lost(0), 0);
        StraitGame z = Check.play("board 3 by 1;piece k king leap 2 0;piece a leap 1 0;white k at 0 0;black a at 1 0;black a at 2 0;");
        z.night(0, 0, true);
        z.night(1, 1, true);
        check.due("lost(0): the king went where it had gone", z.lost(0), 0);
    }

    private void noMove() {
        check.says(0, "Else the SIDE to move has LOST, if it has no MOVE.");
        StraitGame x = Check.play("board 2 by 1;piece a;piece b leap 1 0;white a at 0 0;black b at 1 0;");
        check.due("lost(0): white can't", x.lost(0), 0);
        StraitGame y = Check.play("board 3 by 1;piece a;piece b leap 1 0;white b at 0 0;black a at 2 0;");
        check.due("lost(0)", y.lost(0), -1);
        y.night(0, 0, true);
        check.due("lost(0): black can't", y.lost(0), 1);
        StraitGame z = Check.play("board 3 by 1;piece b leap 1 0;white b at 0 0;");
        check.due("lost(0): black has no MAN, but it is white's turn", z.lost(0), -1);
        StraitGame w = Check.play("board 3 by 1;");
        check.due("lost(0): no MAN at all", w.lost(0), 0);
    }

    private void valuesOfLost() {
        check.says(0, "-1 if it has LOST");
        StraitGame x = Check.play("board 2 by 1;piece a;piece b leap 1 0;white a at 0 0;black b at 1 0;");
        StraitGame y = Check.play("board 3 by 1;piece k king leap 1 0;white k at 0 0;black k at 1 0;");
        y.night(0, 0, true);
        for (int n = 0; n <= 4; n++) {
            check.due("value(0, " + n + "): no MOVE", x.value(0, n), -1);
            check.due("value(0, " + n + "): no king", y.value(0, n), -1);
        }
    }

    private void valuesAhead() {
        check.says(0, "else 0 without MOVES left to make");
        StraitGame x = Check.play("board 3 by 1;piece k king leap 1 0;white k at 0 0;black k at 1 0;");
        check.due("value(0, 0)", x.value(0, 0), 0);
        check.due("value(0, 1)", x.value(0, 1), 1);
        check.says(0, "VALUE for the SIDE to move in n MOVES (0 .. 4, of both SIDES together)");
        // Each in its turn steps nearer, till the one whose turn it is takes the other one's king.
        String line = "board 5 by 1;piece k king leap 1 0;";
        values(line + "white k at 0 0;black k at 2 0;", "0 0 -1 -1 -1");
        values("board 1 by 4;piece p forward;white p at 0 0;black p at 0 3;", "0 0 -1 -1 -1");
        values("board 1 by 5;piece p forward;white p at 0 0;black p at 0 4;", "0 0 0 1 1");
        values("board 1 by 6;piece p forward;white p at 0 0;black p at 0 5;", "0 0 0 0 -1");
        values(line + "white k at 0 0;black k at 4 0;", "0 0 0 0 0");
    }

    /** VALUE in 0 to 4 MOVES, on both keepers' BOARDS. */
    private void values(String text, String want) {
        StraitGame x = Check.play(text);
        String[] due = want.split(" ");
        for (int n = 0; n <= 4; n++) {
            check.due("value(0, " + n + ") of " + text, x.value(0, n), Integer.parseInt(due[n]));
            check.due("value(1, " + n + ") of " + text, x.value(1, n), Integer.parseInt(due[n]));
        }
    }

    private void tillOne() {
        String queens = "board 5 by 6;piece q ride 1 0 ride 1 1;piece k king;"
            + "white q at 1 2;white q at 2 2;white q at 3 2;black q at 1 4;black q at 2 4;black q at 3 4;";
        check.says(0, "the greatest of its MOVES by number (less of what the other one has behind it, in n - 1), till one is 1");
        StraitGame first = Check.play(queens + "white q at 0 0;black k at 1 0;");
        check.due("move(0, 0, 2): the king", first.move(0, 0, 2), 3);
        check.due("value(0, 4): the first MOVE wins", first.value(0, 4), 1);
        StraitGame last = Check.play(queens + "white q at 4 5;black k at 3 5;");
        int number = last.moves(0) - 1;
        check.due("move(0, last, 2): the king", last.move(0, number, 2), 3);
        check.due("value(0, 1): the last MOVE wins", last.value(0, 1), 1);
        check.due("value(0, 4): SPENT ahead of the last MOVE", last.value(0, 4), -2);
        StraitGame next = Check.play("board 5 by 5;piece k king leap 1 0;piece q ride 1 0 leap 1 2;white k at 3 0;black k at 3 1;"
            + "white q at 4 1;black q at 2 4;white q at 0 3;black q at 0 0;");
        check.due("value(0, 4): no MAN behind the first is tried", next.value(0, 4), 1);
    }

    /** As many POSITIONS come to as these have (found by counting in the plain model). */
    private void spent() {
        check.says(0, "SPENT, if more than 30,000 POSITIONS are come to so (each time one is, the first one too).");
        StraitGame x = Check.play("board 5 by 6;piece a leap 3 1 ride 3 2;white a at 0 3;black a at 3 3;white a at 3 4;"
            + "black a at 1 4;white a at 3 5;");
        check.due("value(0, 4) by 30,000", x.value(0, 4), 0);
        check.due("value(0, 4) once more", x.value(0, 4), 0);
        StraitGame y = Check.play("board 5 by 6;piece a leap 0 4 leap 0 2;white a at 2 2;black a at 2 1;white a at 3 1;"
            + "black a at 3 4;white a at 2 3;black a at 4 1;white a at 2 5;black a at 3 5;white a at 1 1;");
        check.due("value(0, 4) by 30,001", y.value(0, 4), -2);
        check.due("value(0, 3): not by that", y.value(0, 3), 0);
        check.due("value(0, 0)", y.value(0, 0), 0);
        String kings = "piece k king leap 1 0;piece q ride 1 0 leap 1 2;";
        StraitGame z = Check.play("board 5 by 6;" + kings + "white k at 1 3;black k at 1 0;white q at 0 5;black q at 4 2;"
            + "white q at 1 2;black q at 1 1;");
        check.due("value(0, 4): won by the 30,000th", z.value(0, 4), 1);
        StraitGame w = Check.play("board 5 by 6;" + kings + "white k at 1 5;black k at 0 5;white q at 2 1;black q at 3 4;");
        check.due("value(0, 4): won by the 30,001st", w.value(0, 4), -2);
        StraitGame v = Check.play("board 4 by 6;" + kings + "white k at 0 4;black k at 1 5;white q at 2 1;black q at 2 5;"
            + "white q at 2 4;black q at 0 2;");
        check.due("value(0, 4): lost by the 30,000th", v.value(0, 4), -1);
    }

    private void at() {
        check.says(6, "What stands on a SQUARE of a keeper's BOARD: 2 * PIECE and the SIDE");
        StraitGame x = Check.play("board 5 by 6;piece a;piece b;piece c;piece d;piece e;piece f;"
            + "white a at 0 0;black a at 1 0;white f at 3 5;black f at 4 5;");
        for (int keeper = 0; keeper < 2; keeper++) {
            check.due("at 0", x.at(keeper, 0), 0);
            check.due("at 1", x.at(keeper, 1), 1);
            check.due("at 28", x.at(keeper, 28), 10);
            check.due("at 29", x.at(keeper, 29), 11);
        }
        check.says(6, "NONE if it is free, or one can't be.");
        check.due("at(0, 2): free", x.at(0, 2), -1);
        for (int square : new int[] {-1, 30, 31, 32, 64, Integer.MIN_VALUE, Integer.MAX_VALUE}) {
            check.due("at(0, " + square + ")", x.at(0, square), -1);
            check.due("at(1, " + square + ")", x.at(1, square), -1);
        }
        StraitGame y = Check.play("board 2 by 1;piece a;white a at 0 0;white a at 1 0;");
        check.due("at(0, 1)", y.at(0, 1), 0);
        check.due("at(0, 2)", y.at(0, 2), -1);
        for (int keeper : NO_KEEPERS) {
            check.due("at(" + keeper + ", 0)", x.at(keeper, 0), -1);
        }
    }

    private void turn() {
        check.says(7, "Whose turn it is on a keeper's BOARD");
        StraitGame x = Check.play(KINGS);
        x.night(0, 0, false);
        check.due("turn(0)", x.turn(0), 1);
        check.due("turn(1)", x.turn(1), 0);
        check.says(7, "NONE if there is none such.");
        for (int keeper : NO_KEEPERS) {
            check.due("turn(" + keeper + ")", x.turn(keeper), -1);
        }
    }

    private void moves() {
        check.says(8, "How many MOVES there are on his BOARD");
        StraitGame x = Check.play("board 3 by 1;piece a leap 1 0;white a at 0 0;black a at 2 0;");
        check.due("moves(0)", x.moves(0), 1);
        x.night(0, 0, false);
        check.due("moves(0)", x.moves(0), 1);
        check.due("moves(1)", x.moves(1), 1);
        check.due("move(0, 0, 0): black's", x.move(0, 0, 0), 2);
        check.due("move(1, 0, 0): white's", x.move(1, 0, 0), 0);
        StraitGame y = Check.play("board 3 by 1;piece a;white a at 0 0;");
        check.due("moves(0): none", y.moves(0), 0);
        check.says(8, "NONE if there is none such.");
        for (int keeper : NO_KEEPERS) {
            check.due("moves(" + keeper + ")", x.moves(keeper), -1);
        }
    }

    private void move() {
        StraitGame x = Check.play("board 3 by 2;piece a leap 1 0;piece b;white a at 0 0;white a at 2 0;black b at 2 1;");
        check.says(9, "Of a MOVE there what 0: from, 1: to, 2: what goes (as at(); NONE)");
        int[][] due = {{0, 1, -1}, {0, 3, -1}, {2, 1, -1}, {2, 5, 3}};
        check.due("moves(0)", x.moves(0), due.length);
        for (int i = 0; i < due.length; i++) {
            for (int what = 0; what < 3; what++) {
                check.due("move(0, " + i + ", " + what + ")", x.move(0, i, what), due[i][what]);
                check.due("move(1, " + i + ", " + what + ")", x.move(1, i, what), due[i][what]);
            }
        }
        check.says(9, "-2 if one can't be.");
        for (int number : new int[] {-1, 4, 5, Integer.MIN_VALUE, Integer.MAX_VALUE}) {
            check.due("move(0, " + number + ", 0)", x.move(0, number, 0), -2);
        }
        for (int what : new int[] {-1, 3, Integer.MIN_VALUE, Integer.MAX_VALUE}) {
            check.due("move(0, 0, " + what + ")", x.move(0, 0, what), -2);
        }
        for (int keeper : NO_KEEPERS) {
            check.due("move(" + keeper + ", 0, 0)", x.move(keeper, 0, 0), -2);
        }
    }

    private void lost() {
        check.says(10, "Who has LOST on his BOARD (a SIDE); NONE if nobody has");
        StraitGame x = Check.play("board 2 by 1;piece k king leap 1 0;white k at 0 0;black k at 1 0;");
        check.due("lost(0)", x.lost(0), -1);
        check.due("lost(1)", x.lost(1), -1);
        x.night(0, 0, false);
        check.due("lost(0): on his alone", x.lost(0), 1);
        check.due("lost(1)", x.lost(1), -1);
        check.says(10, "-2 if there is none such.");
        for (int keeper : NO_KEEPERS) {
            check.due("lost(" + keeper + ")", x.lost(keeper), -2);
        }
    }

    private void value() {
        check.says(11, "VALUE on his BOARD: 1, 0, -1; -2 if SPENT");
        StraitGame x = Check.play("board 2 by 1;piece k king leap 1 0;white k at 0 0;black k at 1 0;");
        check.due("value(0, 0)", x.value(0, 0), 0);
        check.due("value(0, 4)", x.value(0, 4), 1);
        x.night(0, 0, false);
        check.due("value(0, 4)", x.value(0, 4), -1);
        check.due("value(1, 4)", x.value(1, 4), 1);
        StraitGame y = Check.play("board 5 by 6;piece q ride 1 0 ride 1 1;white q at 0 0;white q at 1 0;white q at 2 0;"
            + "black q at 0 5;black q at 1 5;black q at 2 5;");
        check.due("value(0, 4)", y.value(0, 4), -2);
        check.due("value(1, 4)", y.value(1, 4), -2);
        check.due("value(0, 1): it is not SPENT for good", y.value(0, 1), 0);
        check.says(11, "-3 if one can't be.");
        for (int n : new int[] {-1, 5, Integer.MIN_VALUE, Integer.MAX_VALUE}) {
            check.due("value(0, " + n + ")", x.value(0, n), -3);
        }
        for (int keeper : NO_KEEPERS) {
            check.due("value(" + keeper + ", 0)", x.value(keeper, 0), -3);
        }
    }
}
