import java.util.Set;

/** The text of a GAME at its limits, and promises 1 to 5 at theirs. */
final class TextEdges {
    private static final int BLANKS = 0x20202020;
    private static final String BOARD = "board 3 by 3;";
    private static final String PIECE = BOARD + "piece a;";
    private static final String KINGS = "board 2 by 2;piece k king leap 1 0;white k at 0 0;black k at 1 1;";
    private static final String SIX_WAYS = "leap 1 1 ride 1 1 leap 1 1 ride 1 1 leap 1 1 ride 1 1";
    private static final String[] OWN_WORDS = "board by piece king leap ride forward white black at flash".split(" ");

    private final Check check;

    TextEdges(Check check) {
        this.check = check;
    }

    void run() {
        lengths();
        words();
        numbers();
        signs();
        blanks();
        longTokens();
        lettersBehindNumbers();
        ownWords();
        boards();
        boardFirst();
        pieces();
        ways();
        men();
        menPlaces();
        flashes();
        firstFault();
        leastFault();
        atTheEnd();
        cannotStand();
        cutTokens();
        faultPlaces();
        emptyGame();
        feedOrder();
        feedFull();
        ends();
        endsRefused();
        gameRead();
        gameForgets();
        gamesInARow();
        kingsOfElderGames();
        gameRefused();
        faultAsked();
    }

    private static String filled(String first, String last, int bytes) {
        return first + " ".repeat(bytes - first.length() - last.length()) + last;
    }

    private void lengths() {
        check.says(0, "A GAME is a text of at most 1,600 bytes (empty at first): game = {line}.");
        check.sound(filled("board 1 by 1", ";", 1600), 1, 0, 0);
        check.sound(filled("", "board 1 by 1;", 1600), 1, 0, 0);
        check.sound("\n".repeat(1600), 0, 0, 0);
        check.sound("", 0, 0, 0);
        check.fault(filled("board 1 by 1;", "^?", 1601), 1);
        check.fault("board 1 by 1" + " ".repeat(1588) + "^", 2);
        check.fault("^" + ";".repeat(1600), 2);
        check.fault("board 1 by 1;^" + ";".repeat(1587), 2);
        check.fault("^" + "z".repeat(1600), 1);
        check.fault("^" + "1".repeat(1600), 1);
        check.fault(filled("board 1 by", " 1", 1600) + "^", 2);
        check.fault(filled("board 1 by 1;", " piece a", 1600) + "^", 2);
    }

    private void words() {
        check.says(0, "words (a .. z, 8 at most)");
        check.sound(BOARD + "piece abcdefgh;", 9, 1, 0);
        check.fault(BOARD + "piece ^abcdefghi;", 1);
        check.sound(BOARD + "piece a;piece z;piece aaaaaaaa;piece zzzzzzzz;", 9, 4, 0);
        check.sound(BOARD + "piece abcdefgh;piece abcdefgi;white abcdefgi at 0 0;", 9, 2, 1);
        check.fault(BOARD + "piece abcdefgh;white ^abcdefg at 0 0;", 5);
        check.fault(BOARD + "piece ^`;", 1);
        check.fault(BOARD + "piece ^{;", 1);
        check.fault(BOARD + "piece ^A;", 1);
        check.fault(BOARD + "piece ^Z;", 1);
        check.fault(BOARD + "piece a^B;", 1);
        check.fault(BOARD + "piece ^\u00e1;", 1);
        check.fault(BOARD + "piece a^_b;", 1);
    }

    private void numbers() {
        check.says(0, "N (1 to 4 digits)");
        check.sound("board 5 by 6;", 30, 0, 0);
        check.sound("board 05 by 006;", 30, 0, 0);
        check.sound("board 0005 by 0006;", 30, 0, 0);
        check.fault("board ^00005 by 6;", 1);
        check.fault("board 5 by ^00006;", 1);
        check.fault("board ^9999 by 6;", 4);
        check.fault("board ^10000 by 6;", 1);
        check.fault("board ^4294967301 by 6;", 1);
        check.fault("board ^/ by 6;", 1);
        check.fault("board ^: by 6;", 1);
        check.fault("board ^-5 by 6;", 1);
        check.fault("board ^+5 by 6;", 1);
    }

    private void signs() {
        check.says(0, "the sign ;");
        check.sound("board 1 by 1;", 1, 0, 0);
        check.sound("board 1 by 1 ;", 1, 0, 0);
        check.fault("board 1 by 1^:", 1);
        check.fault("board 1 by 1^<", 1);
        check.fault("board 1 by 1^.", 1);
        check.fault("board 1 by 1^\u00bb", 1);
        check.fault("board 1 by 1;^;", 2);
        check.fault("^;", 2);
    }

    private void blanks() {
        check.says(0, "blanks (32, 10) part them or not");
        check.sound("board 1 by 1 ;", 1, 0, 0);
        check.sound("\n\nboard\n1\nby\n \n1\n;\n\n", 1, 0, 0);
        check.sound("  board  1  by  1  ;  ", 1, 0, 0);
        check.sound("board1 by1;piece a;white a at0 0;flash1 2;", 1, 1, 1);
        for (int sign = 0; sign < 256; sign++) {
            boolean isBlank = sign == 32 || sign == 10;
            boolean isToken = sign == ';' || sign >= 'a' && sign <= 'z' || sign >= '0' && sign <= '9';
            if (!isBlank && !isToken) {
                check.fault("board 1 by 1;^" + (char) sign, 1);
            }
        }
    }

    private void longTokens() {
        check.says(0, "each is as long as can be");
        check.fault("^boardby 1;", 2);
        check.fault("^boar d1 by 1;", 2);
        check.fault(BOARD + "piece aking ^kings;", 2);
        check.sound(BOARD + "piece kings;piece pieces;piece ki;", 9, 3, 0);
        check.fault(BOARD + "^piecea;", 2);
        StraitGame x = Check.play(BOARD + "flash 12 3;");
        check.due("about(8) of 12 3", x.about(8), 2);
        check.due("code() of 12 3", x.code(), 15);
    }

    private void lettersBehindNumbers() {
        check.says(0, "no letter directly behind an N");
        check.fault("board ^1by 1;", 1);
        check.fault("board 1 by ^1a;", 1);
        check.fault("board 1 by ^1z;", 1);
        check.fault("board 1 by ^0001a;", 1);
        check.fault("board 1 by ^12345a;", 1);
        check.fault("^1board", 1);
        check.sound("board 1\nby 1;", 1, 0, 0);
        check.sound("board 1 by 1;piece a;", 1, 1, 0);
    }

    private void ownWords() {
        check.says(0, "Words that stand for themselves here are no NAMES.");
        for (String word : OWN_WORDS) {
            for (int i = 0; i < word.length(); i++) {
                String other = word.substring(0, i) + "x" + word.substring(i + 1);
                check.sound(BOARD + "piece " + other + ";white " + other + " at 0 0;", 9, 1, 1);
            }
            check.fault(BOARD + "piece ^" + word + ";", 2);
            check.fault(PIECE + "white ^" + word + " at 0 0;", 2);
            check.fault(PIECE + "black ^" + word + " at 0 0;", 2);
            check.sound(BOARD + "piece " + word + "x;white " + word + "x at 0 0;", 9, 1, 1);
            check.sound(BOARD + "piece x" + word + ";", 9, 1, 0);
            check.sound(BOARD + "piece " + word.substring(1) + ";", 9, 1, 0);
        }
    }

    private void boards() {
        check.says(0, "board (files 1 .. 5, ranks 1 .. 6)");
        check.sound("board 1 by 1;", 1, 0, 0);
        check.sound("board 5 by 6;", 30, 0, 0);
        check.sound("board 5 by 1;", 5, 0, 0);
        check.sound("board 1 by 6;", 6, 0, 0);
        check.fault("board ^0 by 1;", 4);
        check.fault("board ^6 by 1;", 4);
        check.fault("board 1 by ^0;", 4);
        check.fault("board 1 by ^7;", 4);
        check.fault("board 5 by ^7;", 4);
    }

    private void boardFirst() {
        check.says(0, "comes first, once");
        check.fault("^piece a;" + BOARD, 2);
        check.fault("^white a at 0 0;" + BOARD, 2);
        check.fault("^black a at 0 0;" + BOARD, 2);
        check.fault("^flash 1;" + BOARD, 2);
        check.fault(BOARD + "^board 3 by 3;", 2);
        check.fault(PIECE + "white a at 0 0;flash 1;^board 3 by 3;", 2);
    }

    private static String sixPieces() {
        return "piece a;piece b;piece c;piece d;piece e;piece f;";
    }

    private void pieces() {
        check.says(0, "at most 6 PIECES");
        check.sound(BOARD + sixPieces(), 9, 6, 0);
        check.fault(BOARD + sixPieces() + "^piece g;", 2);
        check.fault(BOARD + sixPieces() + "white a at 0 0;^piece g;", 2);
        check.says(0, "numbered as told");
        StraitGame x = Check.play("board 3 by 4;" + sixPieces() + "white f at 0 0;black f at 1 0;white a at 2 0;black c at 2 3;");
        check.due("at(0, 0)", x.at(0, 0), 10);
        check.due("at(0, 1)", x.at(0, 1), 11);
        check.due("at(0, 2)", x.at(0, 2), 0);
        check.due("at(0, 11)", x.at(0, 11), 5);
    }

    private void ways() {
        check.says(0, "each 6 at most of leap, ride");
        check.sound(BOARD + "piece a;", 9, 1, 0);
        check.sound(BOARD + "piece a " + SIX_WAYS + ";piece b " + SIX_WAYS + ";", 9, 2, 0);
        check.sound(BOARD + "piece a" + " leap 1 1".repeat(6) + ";piece b" + " ride 1 1".repeat(6) + ";", 9, 2, 0);
        check.fault(BOARD + "piece a" + " leap 1 1".repeat(6) + " ^leap 1 1;", 2);
        check.fault(BOARD + "piece a" + " ride 1 1".repeat(6) + " ^ride 1 1;", 2);
        check.fault(BOARD + "piece a " + SIX_WAYS + " ^leap 1 1;", 2);
        check.fault(BOARD + "piece a " + SIX_WAYS + " ^ride 1 1;", 2);
        check.fault(PIECE + "piece b " + SIX_WAYS + " ^ride 1 1;", 2);
        check.says(0, "0 .. 4 each, not 0 0");
        for (String way : new String[] {"leap", "ride"}) {
            check.sound(BOARD + "piece a " + way + " 0 1 " + way + " 1 0 " + way + " 0 4 " + way + " 4 0 " + way + " 4 4;", 9, 1, 0);
            check.fault(BOARD + "piece a " + way + " ^5 0;", 4);
            check.fault(BOARD + "piece a " + way + " 0 ^5;", 4);
            check.fault(BOARD + "piece a " + way + " 4 ^5;", 4);
            check.fault(BOARD + "piece a " + way + " 0 ^0;", 4);
            check.fault(BOARD + "piece a " + way + " 0000 ^00;", 4);
            check.fault(BOARD + "piece a " + way + " 1 ^;", 2);
            check.fault(BOARD + "piece a " + way + " ^;", 2);
        }
        check.says(0, "forward once");
        check.sound(BOARD + "piece a forward;piece b king forward;", 9, 2, 0);
        check.sound(BOARD + "piece a " + SIX_WAYS + " forward;", 9, 1, 0);
        check.sound(BOARD + "piece a forward " + SIX_WAYS + ";", 9, 1, 0);
        check.fault(BOARD + "piece a forward ^forward;", 2);
        check.fault(BOARD + "piece a forward " + SIX_WAYS + " ^forward;", 2);
        check.fault(BOARD + "piece a forward " + SIX_WAYS + " ^leap 1 1;", 2);
    }

    /** So many MEN of piece a, three files a rank. */
    private static String menOf(int many, String sides) {
        StringBuilder text = new StringBuilder();
        for (int i = 0; i < many; i++) {
            text.append(sides.charAt(i % sides.length()) == 'w' ? "white" : "black");
            text.append(" a at ").append(i % 3).append(' ').append(i / 3).append(';');
        }
        return text.toString();
    }

    private void men() {
        String board = "board 3 by 5;piece a;";
        check.says(0, "12 MEN");
        check.sound(board, 15, 1, 0);
        check.sound(board + menOf(12, "w"), 15, 1, 12);
        check.sound(board + menOf(12, "b"), 15, 1, 12);
        check.sound(board + menOf(12, "wb"), 15, 1, 12);
        check.fault(board + menOf(12, "w") + "^black a at 0 4;", 2);
        check.fault(board + menOf(12, "b") + "^white a at 0 4;", 2);
        check.fault(board + menOf(12, "wb") + "^white a at 0 4;", 2);
        check.says(0, "of a PIECE told ahead");
        check.sound(PIECE + "white a at 0 0;piece b;black b at 1 0;", 9, 2, 2);
        check.fault(PIECE + "white ^b at 0 0;piece b;", 5);
        check.fault(BOARD + "black ^a at 0 0;", 5);
    }

    private void menPlaces() {
        String board = "board 2 by 3;piece a;";
        check.says(0, "on a free SQUARE: file, rank from 0 on");
        check.sound(board + "white a at 0 0;black a at 1 2;", 6, 1, 2);
        check.fault(board + "white a at ^2 0;", 4);
        check.fault(board + "white a at 1 ^3;", 4);
        check.fault(board + "white a at ^9999 0;", 4);
        check.fault(board + "white a at 1 2;white a at 1 ^2;", 3);
        check.fault(board + "white a at 1 2;black a at 1 ^2;", 3);
        check.sound("board 1 by 2;piece a;white a at 0 0;white a at 0 1;", 2, 1, 2);
        check.fault("board 1 by 2;piece a;white a at 0 0;white a at 0 1;black a at 0 ^0;", 3);
        check.says(0, "SQUARES are numbered file + files * rank");
        StraitGame x = Check.play("board 5 by 6;piece a;white a at 4 5;black a at 0 5;white a at 4 0;black a at 2 3;");
        check.due("at(0, 29)", x.at(0, 29), 0);
        check.due("at(0, 25)", x.at(0, 25), 1);
        check.due("at(0, 4)", x.at(0, 4), 0);
        check.due("at(0, 17)", x.at(0, 17), 1);
        check.due("at(0, 0)", x.at(0, 0), -1);
    }

    private void flashes() {
        String eleven = "flash 1 1 1 1 1 1 1 1 1 1 1";
        check.says(0, "flash once");
        check.sound(BOARD + "flash 1;", 9, 0, 0);
        check.fault(BOARD + "flash 1;^flash 1;", 2);
        check.fault(BOARD + "flash 1;piece a;^flash 2;", 2);
        check.says(0, "1 to 12 numbers, 1 .. 999");
        check.fault(BOARD + "flash ^;", 2);
        check.sound(BOARD + eleven + " 1;", 9, 0, 0);
        check.fault(BOARD + eleven + " 1 ^1;", 2);
        check.sound(BOARD + "flash 999;", 9, 0, 0);
        check.fault(BOARD + "flash ^0;", 4);
        check.fault(BOARD + "flash ^1000;", 4);
        check.fault(BOARD + eleven + " ^0;", 4);
        check.fault(BOARD + eleven + " ^1000;", 4);
        check.fault(BOARD + "flash 1 ^a;", 2);
    }

    private void firstFault() {
        check.says(0, "FAULTS, the first by its place");
        check.fault("board ^0 by 0;", 4);
        check.fault("board ^6 by ?;", 4);
        check.fault(BOARD + "^board ?", 2);
        check.fault(PIECE + "piece ^a 9x", 3);
        check.fault(PIECE + "white ^b at 9 9 ?", 5);
        check.fault(PIECE + "white a at ^9 9;", 4);
        check.fault(PIECE + "white a at 0 0;white a at 0 ^0 at;", 3);
        check.fault(BOARD + "^at ?", 2);
        check.fault("^? 12345", 1);
    }

    private void leastFault() {
        check.says(0, "at one place the least");
        check.fault("board ^9x by 1;", 1);
        check.fault("^0x", 1);
        check.fault(PIECE + "white a at 1 1;white a at 1 ^1x;", 1);
        check.fault(PIECE + "piece ^abcdefghi", 1);
        check.fault(PIECE + "white ^abcdefghi at 0 0;", 1);
        check.fault(BOARD + "flash" + " 1".repeat(12) + " ^1000;", 2);
        check.fault(BOARD + "flash" + " 1".repeat(12) + " ^1x;", 1);
        check.fault(PIECE + "white ^king at 0 0;", 2);
        check.fault("board ^by 1;", 2);
    }

    private void atTheEnd() {
        check.says(0, "bytes from 0; the end: the text's length");
        check.fault("^?", 1);
        String[] begun = {"board", "board 1", "board 1 by", "board 1 by 1", BOARD + "piece", BOARD + "piece a",
            BOARD + "piece a king", BOARD + "piece a leap", BOARD + "piece a leap 0", BOARD + "piece a leap 0 1",
            BOARD + "piece a ride", BOARD + "piece a ride 0", BOARD + "piece a forward", PIECE + "white", PIECE + "black",
            PIECE + "white a", PIECE + "white a at", PIECE + "white a at 0", PIECE + "white a at 0 0",
            BOARD + "flash", BOARD + "flash 1", BOARD + "flash" + " 1".repeat(12)};
        for (String text : begun) {
            check.fault(text + "^", 2);
            check.fault(text + " \n^", 2);
        }
    }

    /** Behind each beginning of a text every word, number and sign but those that can go on there. */
    private void cannotStand() {
        check.says(0, "one that can't stand there");
        String way = "leap ride forward ;";
        refused("", "board");
        refused("board ", "1");
        refused("board 1 ", "by");
        refused("board 1 by ", "1");
        refused("board 1 by 1 ", ";");
        refused(BOARD, "piece white black flash");
        refused(BOARD + "piece ", "name");
        refused(BOARD + "piece a ", "king " + way);
        refused(BOARD + "piece a king ", way);
        refused(BOARD + "piece a forward ", "leap ride ;");
        for (String word : new String[] {"leap", "ride"}) {
            refused(BOARD + "piece a " + word + " ", "1");
            refused(BOARD + "piece a " + word + " 1 ", "1");
            refused(BOARD + "piece a " + word + " 1 1 ", way);
        }
        for (String side : new String[] {"white", "black"}) {
            refused(PIECE + side + " ", "name");
            refused(PIECE + side + " a ", "at");
            refused(PIECE + side + " a at ", "1");
            refused(PIECE + side + " a at 1 ", "1");
            refused(PIECE + side + " a at 1 1 ", ";");
        }
        refused(BOARD + "flash ", "1");
        refused(BOARD + "flash 1 ", "1 ;");
    }

    private void refused(String begun, String canGoOn) {
        Set<String> can = Set.of(canGoOn.split(" "));
        for (String token : (String.join(" ", OWN_WORDS) + " name 1 ;").split(" ")) {
            if (!can.contains(token)) {
                check.fault(begun + "^" + token + " 1 by 1;", 2);
                check.fault(begun + "^" + token, 2);
            }
        }
    }

    /** What stood on the TAPE behind its end is no part of the text, not even of a TOKEN that is cut there. */
    private void cutTokens() {
        check.says(0, "the end: the text's length");
        String whole = BOARD + "piece ab leap 12 3;";
        int[] places = {13, 13, 13, 13, 18, 19, 20, 21, 22, 22, 22, 22, 26, 27, 28, 27, 27, 27};
        for (int i = 0; i < places.length; i++) {
            int n = 14 + i;
            StraitGame x = new StraitGame();
            Check.put(x, whole);
            x.end(n);
            check.due("game() of " + n + " bytes", x.game(), -1);
            check.due("fault(0) of " + n + " bytes", x.fault(0), n < 29 ? 2 : 4);
            check.due("fault(1) of " + n + " bytes", x.fault(1), places[i]);
        }
        StraitGame y = new StraitGame();
        Check.put(y, "board 1 by 1;piece ab;");
        y.end(20);
        Check.put(y, ";");
        check.due("game() of a cut NAME", y.game(), 0);
        Check.put(y, "board 1 by 15;");
        y.end(12);
        check.due("game() of a cut number, no sign", y.game(), -1);
        check.due("fault(1)", y.fault(1), 12);
        Check.put(y, ";");
        check.due("game() of a cut number", y.game(), 0);
        Check.put(y, "board 1 by 1x");
        y.end(12);
        check.due("game() of a number, a letter cut off", y.game(), -1);
        check.due("fault(0)", y.fault(0), 2);
        check.due("fault(1)", y.fault(1), 12);
    }

    private void faultPlaces() {
        check.says(0, "one of a sort too many, a second time, ahead of its time: at the line's first word");
        check.fault(BOARD + sixPieces() + " \n^piece a;", 2);
        check.fault("board 3 by 5;piece a;" + menOf(12, "w") + " ^white b at 9 9;", 2);
        check.fault(BOARD + "flash 1; ^flash 0;", 2);
        check.fault(BOARD + " ^board 9 by 9;", 2);
        check.fault(" ^piece ?", 2);
        check.says(0, "a way or a number too many: there");
        check.fault(BOARD + "piece a " + SIX_WAYS + " ^leap ?", 2);
        check.fault(BOARD + "piece a " + SIX_WAYS + " ^ride 9 9;", 2);
        check.fault(BOARD + "flash" + " 999".repeat(12) + " ^7;", 2);
        check.fault("board 1 by 1 ^1;", 2);
        check.fault(BOARD + "piece a leap 1 1 ^1;", 2);
        check.fault(PIECE + "white a at 0 0 ^0;", 2);
        check.says(0, "a NAME told already, a SQUARE that is not free (at its rank)");
        check.fault(PIECE + "piece ^a;", 3);
        check.fault(BOARD + "piece a;piece b;piece c;piece d;piece e;piece ^e;", 3);
        check.fault(BOARD + "piece abcdefgh;piece ^abcdefgh;", 3);
        check.fault(PIECE + "white a at 2 1;black a at 2 ^1;", 3);
        check.says(0, "a number that can't be (0 0: at the second)");
        check.fault(BOARD + "piece a leap 0 ^0;", 4);
        check.fault(BOARD + "piece a ride 1 0 ride 0 ^0;", 4);
        check.says(0, "a NAME that no PIECE has");
        check.fault(PIECE + "white ^b at 0 0;", 5);
        check.fault(PIECE + "white ^aa at 0 0;", 5);
        check.fault(BOARD + "piece ab;black ^a at 0 0;", 5);
        check.fault(BOARD + "piece ab;black ^b at 0 0;", 5);
    }

    private void emptyGame() {
        check.says(1, "An empty GAME.");
        StraitGame x = new StraitGame();
        for (int what = 0; what <= 9; what++) {
            check.due("about(" + what + ")", x.about(what), 0);
        }
        for (int keeper = 0; keeper < 2; keeper++) {
            check.due("at(" + keeper + ", 0)", x.at(keeper, 0), -1);
            check.due("turn(" + keeper + ")", x.turn(keeper), 0);
            check.due("moves(" + keeper + ")", x.moves(keeper), 0);
            check.due("move(" + keeper + ", 0, 0)", x.move(keeper, 0, 0), -2);
            check.due("lost(" + keeper + ")", x.lost(keeper), 0);
            check.due("value(" + keeper + ", 4)", x.value(keeper, 4), -1);
            check.due("night(" + keeper + ", 0, true)", x.night(keeper, 0, true), -1);
            check.due("could(" + keeper + ")", x.could(keeper), 1);
            check.due("lawful(" + keeper + ")", x.lawful(keeper), 0);
            check.due("lawfulAt(" + keeper + ", 0)", x.lawfulAt(keeper, 0), -1);
        }
        check.due("code()", x.code(), 0);
        check.due("length(0)", x.length(0), -1);
        check.due("differ()", x.differ(), 0);
        check.due("since()", x.since(), -1);
        check.due("undo()", x.undo(), false);
        check.due("redo()", x.redo(), false);
        check.due("book(0, 0)", x.book(0, 0), -2);
        check.due("untell(0)", x.untell(0), false);
        check.storms(x, 0, 1, 0, 0, 0);
        for (int box = 0; box < 3; box++) {
            check.due("back(" + box + ")", x.back(box), -1);
        }
        check.due("blank()", x.blank(), 0);
        check.due("sight(0, 0, 0, -1, 0): no SQUARE", x.sight(0, 0, 0, -1, 0), -1);
    }

    private void feedOrder() {
        check.says(2, "Twenty bytes come behind those on the TAPE, of each number the highest first");
        StraitGame x = new StraitGame();
        check.due("feed, 20", x.feed(0x626f6172, 0x64203520, 0x62792036, 0x3b666c61, 0x73682031), 20);
        check.due("feed, 40", x.feed(0x3b706965, 0x63652061, 0x3b776869, 0x74652061, 0x20617420), 40);
        check.due("feed, 60", x.feed(0x3420353b, 0x20200a0a, BLANKS, BLANKS, BLANKS), 60);
        check.due("game()", x.game(), 1);
        check.due("about(0)", x.about(0), 30);
        check.due("at(0, 29)", x.at(0, 29), 0);
        check.due("code()", x.code(), 1);
        for (int at = 0; at < 20; at++) {
            int[] five = {BLANKS, BLANKS, BLANKS, BLANKS, BLANKS};
            five[at / 4] ^= 0xa0 << 24 - at % 4 * 8;
            x.feed(five[0], five[1], five[2], five[3], five[4]);
            check.due("game() with a byte 128 at " + at, x.game(), -1);
            check.due("its place", x.fault(1), at);
            check.due("end(0)", x.end(0), 0);
        }
    }

    private static void feedTo1600(StraitGame x) {
        Check.put(x, filled(BOARD, "piece a;", 1600));
    }

    private void feedFull() {
        check.says(2, "how many there are; NONE, and nothing comes, if there would be more than 1,600.");
        StraitGame x = new StraitGame();
        for (int n = 1; n <= 80; n++) {
            check.due("feed", x.feed(BLANKS, BLANKS, BLANKS, BLANKS, BLANKS), 20 * n);
        }
        check.due("feed at 1600", x.feed(BLANKS, BLANKS, BLANKS, BLANKS, BLANKS), -1);
        check.due("about(7)", x.about(7), 1600);
        check.due("end(1580)", x.end(1580), 1580);
        check.due("feed at 1580", x.feed(BLANKS, BLANKS, BLANKS, BLANKS, BLANKS), 1600);
        for (int n = 1599; n > 1580; n--) {
            check.due("end", x.end(n), n);
            check.due("feed at " + n, x.feed(0, 0, 0, 0, 0), -1);
            check.due("about(7)", x.about(7), n);
        }
        check.due("game(): no byte of these came", x.game(), 0);
        Twins.same(check, "feed at 1600", TextEdges::feedTo1600, y -> y.feed(0, 0, 0, 0, 0));
        Twins.same(check, "feed at 1581", y -> { feedTo1600(y); y.end(1581); }, y -> y.feed(0, 0, 0, 0, 0));
    }

    private void ends() {
        check.says(3, "The TAPE has its first n bytes: n");
        StraitGame x = new StraitGame();
        check.due("end(0) of none", x.end(0), 0);
        Check.put(x, BOARD + "piece a;?");
        check.due("end(22): all", x.end(22), 22);
        check.due("game()", x.game(), -1);
        check.due("end(21)", x.end(21), 21);
        check.due("about(7)", x.about(7), 21);
        check.due("end(13)", x.end(13), 13);
        check.due("end(14): what was cut is gone", x.end(14), -1);
        Check.put(x, "flash 5;");
        check.due("game()", x.game(), 0);
        check.due("about(1)", x.about(1), 0);
        check.due("about(8)", x.about(8), 1);
        Check.put(x, BOARD);
        check.due("end(0)", x.end(0), 0);
        check.due("game()", x.game(), 0);
        check.due("about(0)", x.about(0), 0);
    }

    private void endsRefused() {
        check.says(3, "NONE, doing nothing, if it has not so many, or n is below 0.");
        StraitGame x = new StraitGame();
        check.due("end(1) of none", x.end(1), -1);
        Check.put(x, KINGS);
        for (int n : new int[] {KINGS.length() + 1, 1600, 1601, Integer.MAX_VALUE, -1, Integer.MIN_VALUE}) {
            check.due("end(" + n + ")", x.end(n), -1);
            check.due("about(7)", x.about(7), KINGS.length());
            Twins.same(check, "end(" + n + ")", y -> Check.put(y, KINGS), y -> y.end(n));
        }
        check.due("game()", x.game(), 2);
    }

    private void gameRead() {
        check.says(4, "The TAPE (empty then) is the GAME");
        StraitGame x = Check.play(KINGS + "flash 1 2;");
        check.due("about(7)", x.about(7), 0);
        check.due("end(1)", x.end(1), -1);
        check.due("game() of an empty TAPE", x.game(), 0);
        for (int what = 0; what <= 9; what++) {
            check.due("about(" + what + ")", x.about(what), 0);
        }
        check.due("at(0, 0)", x.at(0, 0), -1);
        check.due("lost(0)", x.lost(0), 0);
        check.due("code()", x.code(), 0);
        check.due("length(0)", x.length(0), -1);
        check.says(4, "how many MEN");
        for (int many = 0; many <= 12; many++) {
            check.sound("board 3 by 5;piece a;" + menOf(many, "wb"), 15, 1, many);
        }
    }

    private static void usedGame(StraitGame x) {
        Check.put(x, KINGS + "flash 1 2;");
        x.game();
        x.later(7);
        x.night(0, 0, true);
        x.image(0);
        x.night(1, 1, true);
        x.image(1);
        x.blank();
        x.image(2);
        x.undo();
        x.sight(0, 0, 1, 0, 0);
        x.later(1);
        x.sight(1, 1, 0, 0, 0);
        x.untell(0);
    }

    private void gameForgets() {
        check.says(4, "no NIGHTS were, SIGHTS are none, BOXES are empty then; the TIME stays");
        StraitGame x = new StraitGame();
        usedGame(x);
        Check.put(x, KINGS);
        check.due("game()", x.game(), 2);
        check.due("about(3)", x.about(3), 0);
        check.due("about(4)", x.about(4), 0);
        check.due("redo()", x.redo(), false);
        check.due("undo()", x.undo(), false);
        check.due("book(0, 0)", x.book(0, 0), -2);
        check.due("turn(0)", x.turn(0), 0);
        check.due("at(1, 0)", x.at(1, 0), 0);
        check.due("about(5)", x.about(5), 0);
        check.due("untell(1)", x.untell(1), false);
        for (int box = 0; box < 3; box++) {
            check.due("back(" + box + ")", x.back(box), -1);
        }
        check.due("about(6)", x.about(6), 8);
        check.due("later(0)", x.later(0), 8);
        x.night(0, 0, true);
        x.night(1, 0, true);
        check.storms(x, 8, 2, 0, 1, 0);
        check.due("sight: numbers from 0 on", x.sight(0, 0, 1, 0, 0), 0);
    }

    /** What an elder GAME told, or one with a FAULT, is nowhere in the next, nor in the one behind that. */
    private void gamesInARow() {
        check.says(4, "is the GAME");
        String rich = "board 5 by 6;piece a king " + SIX_WAYS + " forward;piece b ride 1 2 ride 1 3 ride 1 4 ride 2 3 ride 2 4 ride 3 4;"
            + "piece c leap 0 1 leap 0 2 leap 0 3 leap 0 4 forward;piece d king forward;piece e;piece f;black f at 0 0;black e at 1 0;"
            + "black d at 2 0;black c at 0 1;white f at 1 1;white a at 2 1;white d at 0 2;black b at 4 5;flash 9 8 7 6 50 4 3 2 1 2 3 4;";
        String[] next = {"", "board 3 by 3;", "board 3 by 3;piece a leap 1 1;piece b;white a at 0 0;white b at 2 2;black b at 1 1;",
            "board 2 by 4;piece a;piece b;piece c ride 1 1;piece d leap 0 1;white d at 0 0;black c at 1 3;flash 1 2 3;", KINGS + "flash 5;",
            "board 5 by 2;" + sixPieces() + "white a at 2 0;white b at 0 1;white c at 1 1;black d at 2 1;black e at 0 0;white f at 3 0;"};
        for (String text : next) {
            Twins.alike(check, "GAMES ahead of " + text, x -> told(x, text), x -> {
                told(x, rich);
                told(x, text);
            });
            Twins.alike(check, "two GAMES ahead of " + text, x -> told(x, text), x -> {
                told(x, rich);
                told(x, rich);
                told(x, text);
            });
            Twins.alike(check, "a FAULT ahead of " + text, x -> told(x, text), x -> {
                told(x, rich);
                told(x, rich + "?");
                x.end(0);
                told(x, text);
            });
        }
    }

    /** A MAN on a SQUARE where an elder GAME had a king is none by that. */
    private void kingsOfElderGames() {
        check.says(4, "The TAPE (empty then) is the GAME");
        StraitGame x = Check.play("board 3 by 3;piece k king;white k at 2 0;black k at 2 1;");
        told(x, "board 3 by 3;piece k king;white k at 2 0;black k at 2 1;");
        told(x, "board 3 by 3;piece a leap 1 0;white a at 0 0;white a at 2 0;black a at 2 1;");
        check.due("night(0, 0, true)", x.night(0, 0, true), 0);
        check.due("night(1, 0, true)", x.night(1, 0, true), 1);
        check.due("at(0, 2)", x.at(0, 2), 1);
        check.due("lost(0)", x.lost(0), -1);
    }

    private static void told(StraitGame x, String text) {
        Check.put(x, text);
        x.game();
    }

    private void gameRefused() {
        check.says(4, "NONE: a FAULT (all stays).");
        String[] bad = {"?", "board 3 by 3;piece a leap 1 1;white a at 0 0;flash 9 9 9;^", "board 9", "flash 1;", BOARD + "white a"};
        for (String text : bad) {
            StraitGame x = new StraitGame();
            usedGame(x);
            Check.put(x, text);
            check.due("game() of " + text, x.game(), -1);
            check.due("about(7)", x.about(7), text.length());
            check.due("again", x.game(), -1);
            Twins.same(check, "game() of " + text, y -> { usedGame(y); Check.put(y, text); y.game(); }, y -> {
                y.game();
                y.game();
            });
            StraitGame z = new StraitGame();
            usedGame(z);
            Check.put(z, text);
            z.game();
            check.due("about(0)", z.about(0), 4);
            check.due("about(1)", z.about(1), 1);
            check.due("about(2)", z.about(2), 2);
            check.due("about(3)", z.about(3), 2);
            check.due("about(4)", z.about(4), 1);
            check.due("about(5)", z.about(5), 2);
            check.due("about(6)", z.about(6), 8);
            check.due("about(8)", z.about(8), 2);
            check.due("code()", z.code(), 3);
            check.due("at(0, 1)", z.at(0, 1), 0);
            check.due("moves(0)", z.moves(0), 2);
            check.due("storms(0, 8)", z.storms(0, 8), 0);
            check.due("storms(0, 7)", z.storms(0, 7), 2);
            check.due("redo()", z.redo(), true);
            check.due("back(0)", z.back(0), 1);
            check.due("back(1)", z.back(1), 2);
            check.due("back(2)", z.back(2), 3);
        }
    }

    private void faultAsked() {
        check.says(5, "Of the latest game() what 0: its FAULT (0), 1: its place (NONE).");
        StraitGame x = new StraitGame();
        check.due("fault(0) ahead of game()", x.fault(0), 0);
        check.due("fault(1) ahead of game()", x.fault(1), -1);
        Check.put(x, BOARD + "piece a;piece a;");
        check.due("fault(0): nothing was read", x.fault(0), 0);
        x.game();
        check.due("fault(0)", x.fault(0), 3);
        check.due("fault(1)", x.fault(1), 27);
        x.end(13);
        check.due("fault(0): it stays till game()", x.fault(0), 3);
        check.due("fault(1)", x.fault(1), 27);
        x.game();
        check.due("fault(0)", x.fault(0), 0);
        check.due("fault(1)", x.fault(1), -1);
        Check.put(x, "?");
        x.game();
        check.due("fault(1): the first byte", x.fault(1), 0);
        check.says(5, "NONE for another what.");
        for (int what : new int[] {-1, 2, Integer.MIN_VALUE, Integer.MAX_VALUE}) {
            check.due("fault(" + what + ")", x.fault(what), -1);
        }
    }
}
