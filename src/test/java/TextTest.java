/** Promises 1 to 5: a new object, the TAPE, the GAME's text and its FAULTS. */
public final class TextTest {
    private static final Check CHECK = new Check("TextTest");
    private static final String BOARD = "board 3 by 3;";
    private static final String MEN = BOARD + "piece k king leap 1 0;white k at 0 0;black k at 2 2;";

    public static void main(String[] args) {
        newObject();
        tape();
        tapeOrder();
        soundTexts();
        tokens();
        boards();
        pieces();
        men();
        flashes();
        allStays();
        gameBeginsAnew();
        CHECK.end();
    }

    private static void newObject() {
        StraitGame x = new StraitGame();
        for (int what = 0; what <= 9; what++) {
            CHECK.due("about(" + what + ")", x.about(what), 0);
        }
        CHECK.due("NONE", StraitGame.NONE, -1);
        CHECK.due("fault(0)", x.fault(0), 0);
        CHECK.due("fault(1)", x.fault(1), -1);
        CHECK.due("fault(2)", x.fault(2), -1);
        CHECK.due("fault(-1)", x.fault(-1), -1);
        CHECK.due("game()", x.game(), 0);
        CHECK.due("lost(1)", x.lost(1), 0);
        CHECK.due("back(0)", x.back(0), -1);
        CHECK.due("code()", x.code(), 0);
    }

    private static void tape() {
        StraitGame x = new StraitGame();
        CHECK.due("end(0)", x.end(0), 0);
        CHECK.due("end(1)", x.end(1), -1);
        CHECK.due("end(-1)", x.end(-1), -1);
        for (int n = 1; n <= 80; n++) {
            CHECK.due("feed " + n, x.feed(0x20202020, 0x20202020, 0x20202020, 0x20202020, 0x20202020), 20 * n);
        }
        CHECK.due("feed at 1600", x.feed(0, 0, 0, 0, 0), -1);
        CHECK.due("about(7)", x.about(7), 1600);
        CHECK.due("end(1601)", x.end(1601), -1);
        CHECK.due("end(1600)", x.end(1600), 1600);
        CHECK.due("end(1581)", x.end(1581), 1581);
        CHECK.due("feed at 1581", x.feed(0, 0, 0, 0, 0), -1);
        CHECK.due("about(7)", x.about(7), 1581);
        CHECK.due("end(1580)", x.end(1580), 1580);
        CHECK.due("feed at 1580", x.feed(0x20202020, 0x20202020, 0x20202020, 0x20202020, 0x20202020), 1600);
        CHECK.due("game() of blanks", x.game(), 0);
        CHECK.due("about(7)", x.about(7), 0);
    }

    /** Of each number the highest byte first: "boar", "d 2 ", "by 3", ";\n\n\n", "\n\n\n\n". */
    private static void tapeOrder() {
        StraitGame x = new StraitGame();
        CHECK.due("feed", x.feed(0x626f6172, 0x64203220, 0x62792033, 0x3b0a0a0a, 0x0a0a0a0a), 20);
        CHECK.due("game()", x.game(), 0);
        CHECK.due("about(0)", x.about(0), 6);
        CHECK.due("feed", x.feed(0xff000000, 0, 0, 0, 0), 20);
        CHECK.due("game()", x.game(), -1);
        CHECK.due("fault(0)", x.fault(0), 1);
        CHECK.due("fault(1)", x.fault(1), 0);
    }

    private static void soundTexts() {
        CHECK.sound("", 0, 0, 0);
        CHECK.sound(" \n ", 0, 0, 0);
        CHECK.sound("board 5 by 6;", 30, 0, 0);
        CHECK.sound("board 0005 by 0006 ;", 30, 0, 0);
        CHECK.sound("board1 by1;", 1, 0, 0);
        CHECK.sound("board\n1\nby\n1\n;\n", 1, 0, 0);
        CHECK.sound(BOARD + "piece a;", 9, 1, 0);
        CHECK.sound(BOARD + "piece a king;piece kings;piece b king;", 9, 3, 0);
        CHECK.sound(BOARD + "piece abcdefgh king forward;white abcdefgh at 0 0;", 9, 1, 1);
        CHECK.sound(BOARD + "piece ab;piece a;piece abc;white abc at 0 0;black a at 1 0;", 9, 3, 2);
        CHECK.sound(BOARD + "piece a leap0 4 ride4 0 forward;", 9, 1, 0);
        CHECK.sound(BOARD + "piece a leap 0 1 leap 0 1 ride 4 4 forward ride 1 2 leap 3 3 leap 2 1;", 9, 1, 0);
        CHECK.sound(BOARD + "flash 1 2 3 4 5 6 7 8 9 10 11 999;", 9, 0, 0);
        CHECK.sound(BOARD + "flash 1;piece a;white a at 0 0;", 9, 1, 1);
        CHECK.sound("board 3 by 4;piece a;piece b;piece c;piece d;piece e;piece f;" + twelve("a"), 12, 6, 12);
    }

    private static String twelve(String name) {
        StringBuilder text = new StringBuilder();
        for (int i = 0; i < 12; i++) {
            text.append(i % 2 == 0 ? "white " : "black ").append(name).append(" at ");
            text.append(i % 3).append(' ').append(i / 3).append(';');
        }
        return text.toString();
    }

    private static void tokens() {
        CHECK.fault("^?", 1);
        CHECK.fault("^B", 1);
        CHECK.fault("^\t", 1);
        CHECK.fault("  ^\u00e9", 1);
        CHECK.fault("^\u0000", 1);
        CHECK.fault("^abcdefghi", 1);
        CHECK.fault("^abcdefgh", 2);
        CHECK.fault("^1", 2);
        CHECK.fault("^12345", 1);
        CHECK.fault("^1a", 1);
        CHECK.fault("board ^1by 1;", 1);
        CHECK.fault("board ^00001 by 1;", 1);
        CHECK.fault("board ^9x", 1);
        CHECK.fault("board 1 by 1^,;", 1);
        CHECK.fault("board ^-1 by 1;", 1);
        CHECK.fault("^;", 2);
        CHECK.fault("^boardby", 2);
        CHECK.fault("^boards 1 by 1;", 2);
        CHECK.fault(BOARD + "piece ^abcdefghi;", 1);
        CHECK.fault(BOARD + "^pieces a;", 2);
    }

    private static void boards() {
        CHECK.fault("^by", 2);
        CHECK.fault("^piece a;", 2);
        CHECK.fault("^white a at 0 0;", 2);
        CHECK.fault("^flash 1;", 2);
        CHECK.fault("board^", 2);
        CHECK.fault("board ^by 1;", 2);
        CHECK.fault("board ^0 by 1;", 4);
        CHECK.fault("board ^6 by 1;", 4);
        CHECK.fault("board 1 ^1;", 2);
        CHECK.fault("board 1 by ^0;", 4);
        CHECK.fault("board 1 by ^7;", 4);
        CHECK.fault("board 1 by ^;", 2);
        CHECK.fault("board 1 by 1^", 2);
        CHECK.fault("board 1 by 1 \n^", 2);
        CHECK.fault("board 1 by 1 ^1;", 2);
        CHECK.fault(BOARD + "^board 3 by 3;", 2);
        CHECK.fault(BOARD + "^board ?", 2);
        CHECK.fault(BOARD + "^;", 2);
    }

    private static void pieces() {
        CHECK.fault(BOARD + "piece ^;", 2);
        CHECK.fault(BOARD + "piece ^1;", 2);
        for (String word : "board by piece king leap ride forward white black at flash".split(" ")) {
            CHECK.fault(BOARD + "piece ^" + word + ";", 2);
        }
        CHECK.fault(BOARD + "piece a;piece b;piece ^a;", 3);
        CHECK.fault(BOARD + "piece a king ^king;", 2);
        CHECK.fault(BOARD + "piece a leap 0 1 ^king;", 2);
        CHECK.fault(BOARD + "piece a forward ^forward;", 2);
        CHECK.fault(BOARD + "piece a leap ^5 1;", 4);
        CHECK.fault(BOARD + "piece a leap 1 ^5;", 4);
        CHECK.fault(BOARD + "piece a ride 0 ^0;", 4);
        CHECK.fault(BOARD + "piece a ride 0 ^;", 2);
        CHECK.fault(BOARD + "piece a leap 1 1 ^1;", 2);
        CHECK.fault(BOARD + "piece a leap 1 1 ride 1 1 leap 1 1 ride 1 1 leap 1 1 ride 1 1 ^ride 9 9;", 2);
        CHECK.fault(BOARD + "piece a leap 1 1 ride 1 1 leap 1 1 ride 1 1 leap 1 1 ride 1 1 forward ^leap 1 1;", 2);
        CHECK.fault(BOARD + "piece a leap 1 1 ride 1 1 leap 1 1 ride 1 1 leap 1 1 ride 1 1 forward ^forward;", 2);
        CHECK.fault(BOARD + "piece a ^b;", 2);
        CHECK.fault(BOARD + "piece a leap 1 1^", 2);
        CHECK.fault(BOARD + "piece a;piece b;piece c;piece d;piece e;piece f;^piece f;", 2);
    }

    private static void men() {
        String piece = BOARD + "piece a;";
        CHECK.fault(piece + "white ^b at 0 0;", 5);
        CHECK.fault(piece + "white ^aa at 0 0;", 5);
        CHECK.fault(piece + "white ^at at 0 0;", 2);
        CHECK.fault(piece + "white a ^0 0;", 2);
        CHECK.fault(piece + "white a at ^3 0;", 4);
        CHECK.fault(piece + "black a at 0 ^3;", 4);
        CHECK.fault(piece + "black a at ^;", 2);
        CHECK.fault(piece + "white a at 1 1;black a at 1 ^1;", 3);
        CHECK.fault(piece + "white a at 1 1;black a at 1 ^1x;", 1);
        CHECK.fault(piece + "white a at 1 1;black a at 1 ^1 ?", 3);
        CHECK.fault(BOARD + "white ^a at 0 0;piece a;", 5);
        CHECK.fault("board 3 by 5;piece a;" + twelve("a") + "^white a at 0 4;", 2);
        CHECK.fault("board 3 by 5;piece a;" + twelve("a") + "^black b at 9 9;", 2);
    }

    private static void flashes() {
        CHECK.fault(BOARD + "flash ^;", 2);
        CHECK.fault(BOARD + "flash ^0;", 4);
        CHECK.fault(BOARD + "flash 1 ^1000;", 4);
        CHECK.fault(BOARD + "flash 1 2 3 4 5 6 7 8 9 10 11 12 ^13;", 2);
        CHECK.fault(BOARD + "flash 1 2 3 4 5 6 7 8 9 10 11 12 ^1000;", 2);
        CHECK.fault(BOARD + "flash 1 2 3 4 5 6 7 8 9 10 11 12 ^1x;", 1);
        CHECK.fault(BOARD + "flash 1;^flash 1;", 2);
        CHECK.fault(BOARD + "flash 1^", 2);
    }

    private static void allStays() {
        StraitGame x = Check.play(MEN);
        x.night(0, 0, true);
        x.blank();
        x.undo();
        x.image(1);
        x.sight(0, 0, 0, -1, 0);
        Check.put(x, "board 1 by 1;?");
        CHECK.due("game()", x.game(), -1);
        CHECK.due("fault(0)", x.fault(0), 1);
        CHECK.due("fault(1)", x.fault(1), 13);
        CHECK.due("about(0)", x.about(0), 9);
        CHECK.due("about(3)", x.about(3), 1);
        CHECK.due("about(4)", x.about(4), 1);
        CHECK.due("about(5)", x.about(5), 1);
        CHECK.due("about(7)", x.about(7), 14);
        CHECK.due("at(0, 1)", x.at(0, 1), 0);
        CHECK.due("back(1)", x.back(1), 1);
        x.end(13);
        CHECK.due("game()", x.game(), 0);
        CHECK.due("fault(0)", x.fault(0), 0);
        CHECK.due("fault(1)", x.fault(1), -1);
        CHECK.due("about(0)", x.about(0), 1);
    }

    private static void gameBeginsAnew() {
        StraitGame x = Check.play(MEN + "flash 1 2;");
        x.later(7);
        x.night(0, 0, true);
        x.blank();
        x.undo();
        x.image(2);
        x.sight(0, 0, 0, -1, 0);
        Check.put(x, MEN);
        CHECK.due("game()", x.game(), 2);
        CHECK.due("about(3)", x.about(3), 0);
        CHECK.due("about(4)", x.about(4), 0);
        CHECK.due("redo()", x.redo(), false);
        CHECK.due("about(5)", x.about(5), 0);
        CHECK.due("about(6)", x.about(6), 7);
        CHECK.due("about(7)", x.about(7), 0);
        CHECK.due("about(8)", x.about(8), 0);
        CHECK.due("code()", x.code(), 0);
        CHECK.due("back(2)", x.back(2), -1);
        CHECK.due("at(0, 0)", x.at(0, 0), 0);
        CHECK.due("untell(0)", x.untell(0), false);
    }
}
