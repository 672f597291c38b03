import java.util.Arrays;

/** Chess by lighthouse: two keepers, each with a BOARD of his own; the document's promises 1 to 30. */
public final class StraitGame {
    public static final int NONE = -1;

    private static final int NO_SUCH = -2;
    private static final int WHITE = 0;
    private static final int BLACK = 1;

    private static final int MAX_BYTES = 1600;
    private static final int MAX_FILES = 5;
    private static final int MAX_RANKS = 6;
    private static final int MAX_SQUARES = MAX_FILES * MAX_RANKS;
    private static final int MAX_PIECES = 6;
    private static final int MAX_WAYS = 6;
    private static final int MAX_STEP = 4;
    private static final int MAX_MEN = 12;
    private static final int MAX_NUMBERS = 12;
    private static final int MAX_OFTEN = 999;
    private static final int TURNS_OF_A_WAY = 8;
    private static final int MAX_RAYS = MAX_WAYS * TURNS_OF_A_WAY;

    private static final int MAX_NIGHTS = 60;
    private static final int MAX_AHEAD = 4;
    private static final int MAX_COME_TO = 30000;
    private static final int DOUBTED_FLASHES = 6;
    private static final int MAX_GUESSES = 1 << DOUBTED_FLASHES;
    private static final int STORM_NIGHTS = 10;
    private static final int MAX_SIGHTS = 30;
    private static final int MAX_LATER = 1000;
    private static final int MAX_TIME = 100000;
    private static final int BOXES = 3;

    private static final int FAULT_NO_TOKEN = 1;
    private static final int FAULT_CANNOT_STAND = 2;
    private static final int FAULT_TAKEN = 3;
    private static final int FAULT_NUMBER = 4;
    private static final int FAULT_UNKNOWN = 5;

    private final byte[] tape = new byte[MAX_BYTES];
    private int tapeBytes = 0;
    private Told told = new Told();
    private Told draft = new Told();
    private final Reader reader = new Reader(tape, draft);
    private final Laws laws = new Laws();
    private final Search search = new Search(laws);
    private final Nights nights = new Nights(laws);
    private final Guess guess = new Guess(laws, nights);
    private final Codes codes = new Codes();
    private final Sights sights = new Sights();
    private final Storms storm = new Storms(laws, nights, sights);

    public StraitGame() {
        begin();
    }

    public int feed(int a, int b, int c, int d, int e) {
        if (tapeBytes + 20 > MAX_BYTES) {
            return NONE;
        }
        putFour(a);
        putFour(b);
        putFour(c);
        putFour(d);
        putFour(e);
        return tapeBytes;
    }

    private void putFour(int number) {
        for (int shift = 24; shift >= 0 && tapeBytes < MAX_BYTES; shift -= 8) {
            tape[tapeBytes] = (byte) (number >>> shift);
            tapeBytes++;
        }
    }

    public int end(int n) {
        if (n < 0 || n > tapeBytes) {
            return NONE;
        }
        tapeBytes = n;
        return n;
    }

    public int game() {
        draft.forget();
        if (!reader.read(tapeBytes, draft)) {
            return NONE;
        }
        Told old = told;
        told = draft;
        draft = old;
        tapeBytes = 0;
        begin();
        return told.men;
    }

    /** The TIME alone goes on from one GAME to the next. */
    private void begin() {
        laws.install(told);
        nights.begin(told.start);
        codes.settle(told);
        sights.count = 0;
    }

    public int fault(int what) {
        if (what == 0) {
            return reader.fault;
        }
        return what == 1 ? reader.faultPlace : NONE;
    }

    public int at(int keeper, int square) {
        if (!isKeeper(keeper) || square < 0 || square >= laws.squares) {
            return NONE;
        }
        return nights.boardNow(keeper).manOn(square);
    }

    public int turn(int keeper) {
        return isKeeper(keeper) ? nights.boardNow(keeper).toMove : NONE;
    }

    public int moves(int keeper) {
        return isKeeper(keeper) ? laws.countMoves(nights.boardNow(keeper)) : NONE;
    }

    public int move(int keeper, int move, int what) {
        if (!isKeeper(keeper) || what < 0 || what > 2) {
            return NO_SUCH;
        }
        Position board = nights.boardNow(keeper);
        int found = laws.findMove(board, move);
        if (found == NONE) {
            return NO_SUCH;
        }
        if (what == 0) {
            return Laws.fromOf(found);
        }
        return what == 1 ? Laws.toOf(found) : board.manOn(Laws.toOf(found));
    }

    public int lost(int keeper) {
        return isKeeper(keeper) ? laws.loser(nights.boardNow(keeper)) : NO_SUCH;
    }

    public int value(int keeper, int n) {
        if (!isKeeper(keeper) || n < 0 || n > MAX_AHEAD) {
            return -3;
        }
        return search.valueOf(nights.boardNow(keeper), n);
    }

    public int night(int keeper, int move, boolean heard) {
        if (!isKeeper(keeper) || nights.count >= MAX_NIGHTS) {
            return NONE;
        }
        Position board = nights.boardNow(keeper);
        if (board.toMove != keeper || laws.findMove(board, move) == NONE) {
            return NONE;
        }
        return nights.add(keeper, move, heard);
    }

    public int blank() {
        return nights.count < MAX_NIGHTS ? nights.add(NONE, NONE, false) : NONE;
    }

    public boolean undo() {
        if (nights.count == 0) {
            return false;
        }
        nights.count--;
        return true;
    }

    public boolean redo() {
        if (nights.count >= nights.kept) {
            return false;
        }
        nights.count++;
        return true;
    }

    public int book(int night, int what) {
        if (night < 0 || night >= nights.count) {
            return NO_SUCH;
        }
        switch (what) {
            case 0:
                return nights.flasher[night];
            case 1:
                return nights.number[night];
            case 2:
                return nights.heard[night] ? 1 : 0;
            case 3:
                return nights.noticed[night] ? 1 : 0;
            default:
                return NO_SUCH;
        }
    }

    public int differ() {
        return nights.boardNow(WHITE).countUnlike(nights.boardNow(BLACK));
    }

    public int since() {
        return nights.firstApart();
    }

    public int could(int keeper) {
        return isKeeper(keeper) ? guess.settle(keeper) : NONE;
    }

    public int lawful(int keeper) {
        if (!isKeeper(keeper)) {
            return NONE;
        }
        guess.settle(keeper);
        return guess.countSafe(keeper);
    }

    public int lawfulAt(int keeper, int i) {
        if (!isKeeper(keeper)) {
            return NONE;
        }
        guess.settle(keeper);
        return guess.findSafe(keeper, i);
    }

    public int code() {
        return codes.total;
    }

    public int length(int i) {
        return i >= 0 && i < codes.count ? codes.lengths[i] : NONE;
    }

    public int sight(int night, int keeper, int square, int piece, int side) {
        if (night < 0 || night >= nights.count || !isKeeper(keeper)) {
            return NONE;
        }
        if (square < 0 || square >= laws.squares || piece < NONE || piece >= told.pieces) {
            return NONE;
        }
        if (side != WHITE && side != BLACK) {
            return NONE;
        }
        return sights.tell(night, keeper, square, piece == NONE ? NONE : 2 * piece + side);
    }

    public boolean untell(int sight) {
        return sights.takeBack(sight);
    }

    public int later(int by) {
        if (by < 0 || by > MAX_LATER || sights.time + by > MAX_TIME) {
            return NONE;
        }
        sights.time += by;
        return sights.time;
    }

    public int storms(int what, int k) {
        if (what < 0 || what > 3) {
            return NO_SUCH;
        }
        storm.begin(k);
        storm.goOn(0, 0, 0);
        switch (what) {
            case 0:
                return storm.sets;
            case 1:
                return storm.lostForSure;
            case 2:
                return storm.heardForSure;
            default:
                return storm.fewest;
        }
    }

    public int image(int box) {
        return box >= 0 && box < BOXES ? nights.keep(box) : NONE;
    }

    public int back(int box) {
        return box >= 0 && box < BOXES ? nights.goBack(box) : NONE;
    }

    public int about(int what) {
        switch (what) {
            case 0:
                return laws.squares;
            case 1:
                return told.pieces;
            case 2:
                return told.men;
            case 3:
                return nights.count;
            case 4:
                return nights.kept - nights.count;
            case 5:
                return sights.count;
            case 6:
                return sights.time;
            case 7:
                return tapeBytes;
            case 8:
                return told.numbers;
            case 9:
                return nights.countNoticed();
            default:
                return NONE;
        }
    }

    private static boolean isKeeper(int keeper) {
        return keeper == WHITE || keeper == BLACK;
    }

    /** A POSITION. SQUARES are bits, as there are 30 at most: so it is copied and compared in a few steps. */
    private static final class Position {
        int toMove = WHITE;
        int white = 0;
        int black = 0;
        int kings = 0;
        int ones = 0;
        int twos = 0;
        int fours = 0;

        void clear() {
            toMove = WHITE;
            white = 0;
            black = 0;
            kings = 0;
            ones = 0;
            twos = 0;
            fours = 0;
        }

        void copyOf(Position other) {
            toMove = other.toMove;
            white = other.white;
            black = other.black;
            kings = other.kings;
            ones = other.ones;
            twos = other.twos;
            fours = other.fours;
        }

        boolean isLike(Position other) {
            return toMove == other.toMove && unlikeSquares(other) == 0;
        }

        int countUnlike(Position other) {
            return Integer.bitCount(unlikeSquares(other));
        }

        private int unlikeSquares(Position other) {
            return (white ^ other.white) | (black ^ other.black)
                | (ones ^ other.ones) | (twos ^ other.twos) | (fours ^ other.fours);
        }

        int menOf(int side) {
            return side == WHITE ? white : black;
        }

        boolean isFree(int square) {
            return ((white | black) >>> square & 1) == 0;
        }

        int pieceOn(int square) {
            return ones >>> square & 1 | (twos >>> square & 1) << 1 | (fours >>> square & 1) << 2;
        }

        /** 2 * PIECE and the SIDE, as at() tells it. */
        int manOn(int square) {
            return isFree(square) ? NONE : 2 * pieceOn(square) + (black >>> square & 1);
        }

        void put(int square, int piece, int side, boolean king) {
            int bit = 1 << square;
            white |= side == WHITE ? bit : 0;
            black |= side == BLACK ? bit : 0;
            kings |= king ? bit : 0;
            ones |= (piece & 1) != 0 ? bit : 0;
            twos |= (piece & 2) != 0 ? bit : 0;
            fours |= (piece & 4) != 0 ? bit : 0;
        }

        void carry(int from, int to) {
            white = carried(white, from, to);
            black = carried(black, from, to);
            kings = carried(kings, from, to);
            ones = carried(ones, from, to);
            twos = carried(twos, from, to);
            fours = carried(fours, from, to);
            toMove = 1 - toMove;
        }

        private static int carried(int squares, int from, int to) {
            return squares & ~(1 << from) & ~(1 << to) | (squares >>> from & 1) << to;
        }
    }

    /** What a GAME's text tells. */
    private static final class Told {
        int files = 0;
        int ranks = 0;
        int pieces = 0;
        int men = 0;
        int numbers = 0;
        final boolean[] king = new boolean[MAX_PIECES];
        final boolean[] forward = new boolean[MAX_PIECES];
        final int[] ways = new int[MAX_PIECES];
        final boolean[] wayRides = new boolean[MAX_PIECES * MAX_WAYS];
        final int[] wayFirst = new int[MAX_PIECES * MAX_WAYS];
        final int[] waySecond = new int[MAX_PIECES * MAX_WAYS];
        final int[] often = new int[MAX_NUMBERS];
        final Position start = new Position();

        void forget() {
            files = 0;
            ranks = 0;
            pieces = 0;
            men = 0;
            numbers = 0;
            start.clear();
        }

        void addPiece(boolean isKing) {
            if (pieces < MAX_PIECES) {
                king[pieces] = isKing;
                forward[pieces] = false;
                ways[pieces] = 0;
                pieces++;
            }
        }

        void addWay(int piece, boolean rides, int first, int second) {
            if (ways[piece] < MAX_WAYS) {
                int row = piece * MAX_WAYS + ways[piece];
                wayRides[row] = rides;
                wayFirst[row] = first;
                waySecond[row] = second;
                ways[piece]++;
            }
        }
    }

    /** The TOKENS of the text on the TAPE, in their order; the last one is END, or the first that is no TOKEN. */
    private static final class Tokens {
        static final int END = 0;
        static final int NO_TOKEN = 1;
        static final int NUMBER = 2;
        static final int SIGN = 3;
        static final int NAME = 4;
        static final int BOARD = 5;
        static final int BY = 6;
        static final int PIECE = 7;
        static final int KING = 8;
        static final int LEAP = 9;
        static final int RIDE = 10;
        static final int FORWARD = 11;
        static final int WHITE_MAN = 12;
        static final int BLACK_MAN = 13;
        static final int AT = 14;
        static final int FLASH = 15;
        private static final int MAX_LETTERS = 8;
        private static final int MAX_DIGITS = 4;

        int count = 0;
        final byte[] kinds = new byte[MAX_BYTES + 1];
        final int[] places = new int[MAX_BYTES + 1];
        private final byte[] text;
        private int bytes = 0;

        Tokens(byte[] text) {
            this.text = text;
        }

        void scan(int length) {
            bytes = Math.min(length, text.length);
            count = 0;
            int kind = SIGN;
            int from = 0;
            while (count <= MAX_BYTES && kind != END && kind != NO_TOKEN) {
                from = endOfBlanks(from);
                int to = endOfToken(from);
                kind = kindOf(from, to);
                kinds[count] = (byte) kind;
                places[count] = from;
                count++;
                from = to;
            }
        }

        private int endOfBlanks(int from) {
            int to = from;
            while (to < bytes && (text[to] == 32 || text[to] == 10)) {
                to++;
            }
            return to;
        }

        private int endOfToken(int from) {
            int to = from;
            if (isDigit(from)) {
                while (to < bytes && isDigit(to)) {
                    to++;
                }
                return to;
            }
            while (to < bytes && isLetter(to)) {
                to++;
            }
            return to > from ? to : from + 1;
        }

        private int kindOf(int from, int to) {
            if (from >= bytes) {
                return END;
            }
            if (isDigit(from)) {
                return to - from > MAX_DIGITS || isLetter(to) ? NO_TOKEN : NUMBER;
            }
            if (isLetter(from)) {
                return to - from > MAX_LETTERS ? NO_TOKEN : wordKind(from, to - from);
            }
            return text[from] == ';' ? SIGN : NO_TOKEN;
        }

        private boolean isDigit(int where) {
            return where < bytes && text[where] >= '0' && text[where] <= '9';
        }

        private boolean isLetter(int where) {
            return where < bytes && text[where] >= 'a' && text[where] <= 'z';
        }

        private int wordKind(int from, int letters) {
            switch (letters) {
                case 2:
                    return isWord(from, "by") ? BY : isWord(from, "at") ? AT : NAME;
                case 4:
                    return manWordKind(from);
                case 5:
                    return lineWordKind(from);
                case 7:
                    return isWord(from, "forward") ? FORWARD : NAME;
                default:
                    return NAME;
            }
        }

        private int manWordKind(int from) {
            if (isWord(from, "king")) {
                return KING;
            }
            if (isWord(from, "leap")) {
                return LEAP;
            }
            return isWord(from, "ride") ? RIDE : NAME;
        }

        private int lineWordKind(int from) {
            if (isWord(from, "board")) {
                return BOARD;
            }
            if (isWord(from, "piece")) {
                return PIECE;
            }
            if (isWord(from, "white")) {
                return WHITE_MAN;
            }
            if (isWord(from, "black")) {
                return BLACK_MAN;
            }
            return isWord(from, "flash") ? FLASH : NAME;
        }

        private boolean isWord(int from, String word) {
            for (int i = 0; i < word.length(); i++) {
                if (from + i >= bytes || text[from + i] != word.charAt(i)) {
                    return false;
                }
            }
            return true;
        }

        int numberAt(int place) {
            int number = 0;
            int end = Math.min(place + MAX_DIGITS, bytes);
            for (int i = place; i < end && text[i] >= '0' && text[i] <= '9'; i++) {
                number = 10 * number + text[i] - '0';
            }
            return number;
        }

        boolean isSameWord(int place, int other) {
            for (int i = 0; i < MAX_LETTERS; i++) {
                if (!isLetter(place + i) || !isLetter(other + i)) {
                    return isLetter(place + i) == isLetter(other + i);
                }
                if (text[place + i] != text[other + i]) {
                    return false;
                }
            }
            return true;
        }
    }

    /** Reads a GAME's text; stops at the first FAULT, as none that is found later has an earlier place. */
    private static final class Reader {
        int fault = 0;
        int faultPlace = NONE;
        private final Tokens tokens;
        private Told told;
        private int token = 0;
        private int kind = Tokens.END;
        private int place = 0;
        private int taken = 0;
        private int takenPlace = 0;
        private final int[] namePlace = new int[MAX_PIECES];

        Reader(byte[] text, Told told) {
            tokens = new Tokens(text);
            this.told = told;
        }

        boolean read(int length, Told into) {
            told = into;
            fault = 0;
            faultPlace = NONE;
            tokens.scan(length);
            token = 0;
            look();
            for (int lines = 0; lines <= MAX_BYTES && kind != Tokens.END; lines++) {
                if (!readLine()) {
                    return false;
                }
            }
            return true;
        }

        private void look() {
            if (token < tokens.count) {
                kind = tokens.kinds[token];
                place = tokens.places[token];
            }
        }

        private void step() {
            token++;
            look();
        }

        private boolean refuse(int what, int where) {
            fault = what;
            faultPlace = where;
            return false;
        }

        private boolean refuseHere() {
            return refuse(kind == Tokens.NO_TOKEN ? FAULT_NO_TOKEN : FAULT_CANNOT_STAND, place);
        }

        private boolean readLine() {
            if (told.files == 0) {
                return kind == Tokens.BOARD ? readBoard() : refuseHere();
            }
            switch (kind) {
                case Tokens.PIECE:
                    return told.pieces < MAX_PIECES ? readPiece() : refuseHere();
                case Tokens.WHITE_MAN:
                    return told.men < MAX_MEN ? readMan(WHITE) : refuseHere();
                case Tokens.BLACK_MAN:
                    return told.men < MAX_MEN ? readMan(BLACK) : refuseHere();
                case Tokens.FLASH:
                    return told.numbers == 0 ? readFlash() : refuseHere();
                default:
                    return refuseHere();
            }
        }

        private boolean readBoard() {
            step();
            if (!takeNumber(1, MAX_FILES)) {
                return false;
            }
            told.files = taken;
            if (!take(Tokens.BY) || !takeNumber(1, MAX_RANKS)) {
                return false;
            }
            told.ranks = taken;
            return take(Tokens.SIGN);
        }

        private boolean readPiece() {
            step();
            if (kind != Tokens.NAME) {
                return refuseHere();
            }
            if (findPiece() != NONE) {
                return refuse(FAULT_TAKEN, place);
            }
            int piece = told.pieces;
            if (piece >= MAX_PIECES) {
                return refuseHere();
            }
            namePlace[piece] = place;
            step();
            told.addPiece(kind == Tokens.KING);
            if (kind == Tokens.KING) {
                step();
            }
            // One round more than there can be ways, so that the one too many is refused.
            for (int n = 0; n <= MAX_WAYS + 1 && kind != Tokens.SIGN; n++) {
                if (!readWay(piece)) {
                    return false;
                }
            }
            return take(Tokens.SIGN);
        }

        private boolean readWay(int piece) {
            if (kind == Tokens.FORWARD && !told.forward[piece]) {
                told.forward[piece] = true;
                step();
                return true;
            }
            boolean rides = kind == Tokens.RIDE;
            if (kind != Tokens.LEAP && !rides || told.ways[piece] >= MAX_WAYS) {
                return refuseHere();
            }
            step();
            if (!takeNumber(0, MAX_STEP)) {
                return false;
            }
            int first = taken;
            if (!takeNumber(0, MAX_STEP)) {
                return false;
            }
            if (first == 0 && taken == 0) {
                return refuse(FAULT_NUMBER, takenPlace);
            }
            told.addWay(piece, rides, first, taken);
            return true;
        }

        private boolean readMan(int side) {
            step();
            if (kind != Tokens.NAME) {
                return refuseHere();
            }
            int piece = findPiece();
            if (piece == NONE) {
                return refuse(FAULT_UNKNOWN, place);
            }
            step();
            if (!take(Tokens.AT) || !takeNumber(0, told.files - 1)) {
                return false;
            }
            int file = taken;
            if (!takeNumber(0, told.ranks - 1)) {
                return false;
            }
            int square = file + told.files * taken;
            if (!told.start.isFree(square)) {
                return refuse(FAULT_TAKEN, takenPlace);
            }
            told.start.put(square, piece, side, told.king[piece]);
            told.men++;
            return take(Tokens.SIGN);
        }

        private boolean readFlash() {
            step();
            for (int n = 0; n < MAX_NUMBERS && (n == 0 || kind == Tokens.NUMBER); n++) {
                if (!takeNumber(1, MAX_OFTEN)) {
                    return false;
                }
                told.often[n] = taken;
                told.numbers++;
            }
            return take(Tokens.SIGN);
        }

        private boolean take(int wanted) {
            if (kind != wanted) {
                return refuseHere();
            }
            step();
            return true;
        }

        private boolean takeNumber(int least, int most) {
            if (kind != Tokens.NUMBER) {
                return refuseHere();
            }
            int number = tokens.numberAt(place);
            if (number < least || number > most) {
                return refuse(FAULT_NUMBER, place);
            }
            taken = number;
            takenPlace = place;
            step();
            return true;
        }

        /** The PIECE whose NAME the word at hand is. */
        private int findPiece() {
            for (int i = 0; i < told.pieces; i++) {
                if (tokens.isSameWord(namePlace[i], place)) {
                    return i;
                }
            }
            return NONE;
        }
    }

    /** Which MOVES there are, by tables made once for a GAME. */
    private static final class Laws {
        private static final int FROM_UNIT = 32;

        int squares = 0;
        private int files = 0;
        private int ranks = 0;
        private boolean whiteHadKing = false;
        private boolean blackHadKing = false;
        private final int[] leapTo = new int[MAX_PIECES * MAX_SQUARES];
        private final boolean[] forward = new boolean[MAX_PIECES];
        private final int[] ahead = new int[2 * MAX_SQUARES];
        private final int[] beside = new int[2 * MAX_SQUARES];
        private final int[] rays = new int[MAX_PIECES];
        private final int[] rayFiles = new int[MAX_PIECES * MAX_RAYS];
        private final int[] rayRanks = new int[MAX_PIECES * MAX_RAYS];

        static int fromOf(int move) {
            return move / FROM_UNIT;
        }

        static int toOf(int move) {
            return move % FROM_UNIT;
        }

        void install(Told told) {
            files = told.files;
            ranks = told.ranks;
            squares = files * ranks;
            whiteHadKing = (told.start.white & told.start.kings) != 0;
            blackHadKing = (told.start.black & told.start.kings) != 0;
            Arrays.fill(leapTo, 0);
            for (int piece = 0; piece < told.pieces; piece++) {
                forward[piece] = told.forward[piece];
                rays[piece] = 0;
                for (int i = 0; i < told.ways[piece]; i++) {
                    installWay(told, piece, piece * MAX_WAYS + i);
                }
            }
            for (int square = 0; square < squares; square++) {
                installForward(square);
            }
        }

        /** The eight turns of a way: each sign of both numbers, and both orders. */
        private void installWay(Told told, int piece, int row) {
            for (int turned = 0; turned < TURNS_OF_A_WAY; turned++) {
                boolean swapped = (turned & 4) != 0;
                int stepFiles = swapped ? told.waySecond[row] : told.wayFirst[row];
                int stepRanks = swapped ? told.wayFirst[row] : told.waySecond[row];
                stepFiles = (turned & 1) != 0 ? -stepFiles : stepFiles;
                stepRanks = (turned & 2) != 0 ? -stepRanks : stepRanks;
                if (told.wayRides[row]) {
                    addRay(piece, stepFiles, stepRanks);
                } else {
                    addLeap(piece, stepFiles, stepRanks);
                }
            }
        }

        private void addRay(int piece, int stepFiles, int stepRanks) {
            int first = piece * MAX_RAYS;
            for (int i = first; i < first + rays[piece]; i++) {
                if (rayFiles[i] == stepFiles && rayRanks[i] == stepRanks) {
                    return;
                }
            }
            if (rays[piece] < MAX_RAYS) {
                rayFiles[first + rays[piece]] = stepFiles;
                rayRanks[first + rays[piece]] = stepRanks;
                rays[piece]++;
            }
        }

        private void addLeap(int piece, int stepFiles, int stepRanks) {
            for (int rank = 0; rank < ranks; rank++) {
                for (int file = 0; file < files; file++) {
                    leapTo[piece * MAX_SQUARES + file + files * rank] |= squareBit(file + stepFiles, rank + stepRanks);
                }
            }
        }

        private void installForward(int square) {
            if (files < 1) {
                return;
            }
            int file = square % files;
            int rank = square / files;
            for (int side = WHITE; side <= BLACK; side++) {
                int nextRank = side == WHITE ? rank + 1 : rank - 1;
                ahead[side * MAX_SQUARES + square] = squareBit(file, nextRank);
                beside[side * MAX_SQUARES + square] = squareBit(file - 1, nextRank) | squareBit(file + 1, nextRank);
            }
        }

        /** 0 off the board. */
        private int squareBit(int file, int rank) {
            return isOnBoard(file, rank) ? 1 << file + files * rank : 0;
        }

        private boolean isOnBoard(int file, int rank) {
            return file >= 0 && file < files && rank >= 0 && rank < ranks;
        }

        /** The SIDE that has LOST by having no king any more. */
        int kingless(Position board) {
            if (whiteHadKing && (board.white & board.kings) == 0) {
                return WHITE;
            }
            return blackHadKing && (board.black & board.kings) == 0 ? BLACK : NONE;
        }

        /** The SQUARES that MOVES from this one go to, as bits. */
        int movesFrom(Position board, int from) {
            return kingless(board) == NONE ? reach(board, from) : 0;
        }

        /** Where the MAN on a SQUARE can go, if it is of the SIDE to move; whether that one has LOST is not asked. */
        int reach(Position board, int from) {
            int own = board.menOf(board.toMove);
            int piece = board.pieceOn(from);
            if (from < 0 || from >= squares || (own >>> from & 1) == 0 || piece >= MAX_PIECES) {
                return 0;
            }
            int others = board.menOf(1 - board.toMove);
            int reached = leapTo[piece * MAX_SQUARES + from] & ~own;
            if (forward[piece]) {
                int row = board.toMove * MAX_SQUARES + from;
                reached |= ahead[row] & ~(own | others) | beside[row] & others;
            }
            return reached | ridesTo(piece, from, own, others);
        }

        private int ridesTo(int piece, int from, int own, int others) {
            if (files < 1) {
                return 0;
            }
            int reached = 0;
            int first = piece * MAX_RAYS;
            int last = first + rays[piece];
            for (int ray = first; ray < last; ray++) {
                int file = from % files + rayFiles[ray];
                int rank = from / files + rayRanks[ray];
                for (int n = 0; n < MAX_RANKS && file >= 0 && file < files && rank >= 0 && rank < ranks; n++) {
                    int bit = 1 << file + files * rank;
                    if ((own & bit) != 0) {
                        break;
                    }
                    reached |= bit;
                    if ((others & bit) != 0) {
                        break;
                    }
                    file += rayFiles[ray];
                    rank += rayRanks[ray];
                }
            }
            return reached;
        }

        boolean canMove(Position board) {
            for (int from = 0; from < squares; from++) {
                if (reach(board, from) != 0) {
                    return true;
                }
            }
            return false;
        }

        int countMoves(Position board) {
            int count = 0;
            for (int from = 0; from < squares && kingless(board) == NONE; from++) {
                count += Integer.bitCount(reach(board, from));
            }
            return count;
        }

        /** The MOVE of a number: fromOf and toOf tell its SQUARES; NONE if there is none such. */
        int findMove(Position board, int number) {
            if (number < 0 || kingless(board) != NONE) {
                return NONE;
            }
            int left = number;
            for (int from = 0; from < squares; from++) {
                int reached = reach(board, from);
                int count = Integer.bitCount(reached);
                if (left < count) {
                    return FROM_UNIT * from + bitAt(reached, left);
                }
                left -= count;
            }
            return NONE;
        }

        private static int bitAt(int squares, int index) {
            int left = index;
            for (int square = 0; square < MAX_SQUARES; square++) {
                if ((squares >>> square & 1) != 0) {
                    if (left == 0) {
                        return square;
                    }
                    left--;
                }
            }
            return 0;
        }

        /** The MOVE of a number is made, if it is that SIDE's turn and there is such a MOVE: whether it was. */
        boolean make(Position board, int side, int number) {
            if (board.toMove != side) {
                return false;
            }
            int found = findMove(board, number);
            if (found == NONE) {
                return false;
            }
            board.carry(fromOf(found), toOf(found));
            return true;
        }

        int loser(Position board) {
            int side = kingless(board);
            if (side != NONE) {
                return side;
            }
            return canMove(board) ? NONE : board.toMove;
        }
    }

    /** VALUE: a row of POSITIONS, one a MOVE ahead. */
    private static final class Search {
        private static final int SPENT = -2;

        private final Laws laws;
        private final Position[] line = new Position[MAX_AHEAD + 1];
        private int comeTo = 0;

        Search(Laws laws) {
            this.laws = laws;
            for (int i = 0; i <= MAX_AHEAD; i++) {
                line[i] = new Position();
            }
        }

        int valueOf(Position board, int n) {
            line[0].copyOf(board);
            comeTo = 0;
            int worth = worthAt(0, n);
            return isSpent() ? SPENT : worth;
        }

        private boolean isSpent() {
            return comeTo > MAX_COME_TO;
        }

        private int worthAt(int depth, int left) {
            comeTo++;
            if (isSpent()) {
                return 0;
            }
            Position board = line[depth];
            int loser = laws.kingless(board);
            if (loser != NONE) {
                return loser == board.toMove ? -1 : 1;
            }
            if (left <= 0 || depth >= MAX_AHEAD) {
                return laws.canMove(board) ? 0 : -1;
            }
            int best = -1;
            for (int from = 0; from < laws.squares && best < 1 && !isSpent(); from++) {
                int reached = laws.reach(board, from);
                if (reached != 0) {
                    best = Math.max(best, bestFrom(depth, left, from, reached));
                }
            }
            return best;
        }

        private int bestFrom(int depth, int left, int from, int reached) {
            if (depth >= MAX_AHEAD) {
                return -1;
            }
            int best = -1;
            for (int to = 0; to < laws.squares && best < 1 && !isSpent(); to++) {
                if ((reached >>> to & 1) != 0) {
                    line[depth + 1].copyOf(line[depth]);
                    line[depth + 1].carry(from, to);
                    best = Math.max(best, -worthAt(depth + 1, left - 1));
                }
            }
            return best;
        }
    }

    /**
     * The NIGHTS that were, behind them those that can be redone, and both BOARDS ahead of each and behind the last.
     * Each row has room for the NIGHTS of the BOXES too: their BOARDS come from them again.
     */
    private static final class Nights {
        int count = 0;
        int kept = 0;
        final int[] flasher = new int[MAX_NIGHTS * (1 + BOXES)];
        final int[] number = new int[MAX_NIGHTS * (1 + BOXES)];
        final boolean[] heard = new boolean[MAX_NIGHTS * (1 + BOXES)];
        final boolean[] noticed = new boolean[MAX_NIGHTS];
        private final Laws laws;
        private final Position[] boards = new Position[2 * MAX_NIGHTS + 2];
        private final int[] boxCount = new int[BOXES];

        Nights(Laws laws) {
            this.laws = laws;
            for (int i = 0; i < boards.length; i++) {
                boards[i] = new Position();
            }
        }

        void begin(Position start) {
            count = 0;
            kept = 0;
            boards[WHITE].copyOf(start);
            boards[BLACK].copyOf(start);
            Arrays.fill(boxCount, NONE);
        }

        Position start() {
            return boards[0];
        }

        Position boardNow(int keeper) {
            return boards[2 * count + keeper];
        }

        int add(int keeper, int move, boolean wasHeard) {
            if (count >= MAX_NIGHTS) {
                return NONE;
            }
            flasher[count] = keeper;
            number[count] = move;
            heard[count] = wasHeard;
            playOut(count);
            count++;
            kept = count;
            return count - 1;
        }

        /** Makes the BOARDS behind a NIGHT from those ahead of it. */
        private void playOut(int night) {
            int row = 2 * night + 2;
            boards[row].copyOf(boards[row - 2]);
            boards[row + 1].copyOf(boards[row - 1]);
            noticed[night] = false;
            int keeper = flasher[night];
            if (keeper != NONE) {
                laws.make(boards[row + keeper], keeper, number[night]);
                noticed[night] = heard[night] && !laws.make(boards[row + 1 - keeper], keeper, number[night]);
            }
        }

        int keep(int box) {
            boxCount[box] = count;
            copyNights(0, (1 + box) * MAX_NIGHTS, count);
            return count;
        }

        int goBack(int box) {
            if (boxCount[box] == NONE) {
                return NONE;
            }
            count = boxCount[box];
            kept = count;
            copyNights((1 + box) * MAX_NIGHTS, 0, count);
            for (int night = 0; night < count; night++) {
                playOut(night);
            }
            return count;
        }

        private void copyNights(int from, int to, int many) {
            for (int i = 0; i < many && i < MAX_NIGHTS; i++) {
                flasher[to + i] = flasher[from + i];
                number[to + i] = number[from + i];
                heard[to + i] = heard[from + i];
            }
        }

        /** The first NIGHT since which the BOARDS never were alike. */
        int firstApart() {
            int night = count;
            while (night > 0 && !boards[2 * night].isLike(boards[2 * night + 1])) {
                night--;
            }
            return night == count ? NONE : night;
        }

        int countNoticed() {
            int often = 0;
            for (int i = 0; i < count; i++) {
                often += noticed[i] ? 1 : 0;
            }
            return often;
        }

        int countFlashesOf(int keeper) {
            int often = 0;
            for (int i = 0; i < count; i++) {
                often += flasher[i] == keeper ? 1 : 0;
            }
            return often;
        }
    }

    /** COULD: all unlike POSITIONS that the other one's BOARD can have come to, NIGHT by NIGHT. */
    private static final class Guess {
        private final Laws laws;
        private final Nights nights;
        private Position[] now = new Position[MAX_GUESSES];
        private Position[] next = new Position[MAX_GUESSES];
        private int count = 0;
        private int nextCount = 0;
        private final Position supposed = new Position();

        Guess(Laws laws, Nights nights) {
            this.laws = laws;
            this.nights = nights;
            for (int i = 0; i < MAX_GUESSES; i++) {
                now[i] = new Position();
                next[i] = new Position();
            }
        }

        int settle(int keeper) {
            now[0].copyOf(nights.start());
            count = 1;
            int elder = nights.countFlashesOf(keeper) - DOUBTED_FLASHES;
            for (int night = 0; night < nights.count; night++) {
                if (nights.flasher[night] == keeper) {
                    goOnByOwn(night, elder <= 0);
                    elder--;
                } else if (nights.flasher[night] != NONE && nights.heard[night]) {
                    goOnByHeard(night);
                }
            }
            return count;
        }

        private void goOnByOwn(int night, boolean doubted) {
            nextCount = 0;
            for (int i = 0; i < count; i++) {
                if (doubted || !nights.heard[night]) {
                    note(now[i]);
                }
                if (doubted || nights.heard[night]) {
                    supposed.copyOf(now[i]);
                    laws.make(supposed, nights.flasher[night], nights.number[night]);
                    note(supposed);
                }
            }
            turnOver();
        }

        private void goOnByHeard(int night) {
            nextCount = 0;
            for (int i = 0; i < count; i++) {
                supposed.copyOf(now[i]);
                if (laws.make(supposed, nights.flasher[night], nights.number[night])) {
                    note(supposed);
                }
            }
            turnOver();
        }

        private void note(Position board) {
            for (int i = 0; i < nextCount; i++) {
                if (next[i].isLike(board)) {
                    return;
                }
            }
            if (nextCount < MAX_GUESSES) {
                next[nextCount].copyOf(board);
                nextCount++;
            }
        }

        private void turnOver() {
            Position[] old = now;
            now = next;
            next = old;
            count = nextCount;
        }

        int countSafe(int keeper) {
            int safe = 0;
            for (int from = 0; from < laws.squares; from++) {
                safe += Integer.bitCount(safeFrom(keeper, from));
            }
            return safe;
        }

        /** The number on his BOARD of the index-th MOVE that is lawful everywhere. */
        int findSafe(int keeper, int index) {
            int number = 0;
            int left = index;
            for (int from = 0; from < laws.squares && left >= 0; from++) {
                int safe = safeFrom(keeper, from);
                int all = laws.movesFrom(nights.boardNow(keeper), from);
                for (int to = 0; to < laws.squares; to++) {
                    if ((safe >>> to & 1) != 0) {
                        if (left == 0) {
                            return number;
                        }
                        left--;
                    }
                    number += all >>> to & 1;
                }
            }
            return NONE;
        }

        private int safeFrom(int keeper, int from) {
            Position own = nights.boardNow(keeper);
            int safe = own.toMove == keeper ? laws.movesFrom(own, from) : 0;
            for (int i = 0; i < count && safe != 0; i++) {
                safe &= now[i].toMove == keeper ? laws.movesFrom(now[i], from) : 0;
            }
            return safe;
        }
    }

    /**
     * CODE. The best code leaves no beginning unused, and for at most twelve numbers there are few such
     * rows of lengths (159), so all are looked at.
     */
    private static final class Codes {
        private static final int TOO_MANY = MAX_NUMBERS * MAX_NUMBERS * MAX_OFTEN + 1;

        int count = 0;
        int total = 0;
        final int[] lengths = new int[MAX_NUMBERS];
        private final int[] often = new int[MAX_NUMBERS];
        private final int[] order = new int[MAX_NUMBERS];
        private final int[] rising = new int[MAX_NUMBERS];
        private final int[] trial = new int[MAX_NUMBERS];

        void settle(Told told) {
            count = told.numbers;
            total = 0;
            for (int i = 0; i < count; i++) {
                often[i] = told.often[i];
            }
            if (count == 1) {
                lengths[0] = 1;
                total = often[0];
            } else if (count > 1) {
                sortByOften();
                total = TOO_MANY;
                spread(0, 1, 0);
            }
        }

        /** The most often first; of like ones the first, as it is to have the least length. */
        private void sortByOften() {
            for (int i = 0; i < count; i++) {
                int hole = i;
                while (hole > 0 && often[order[hole - 1]] < often[i]) {
                    order[hole] = order[hole - 1];
                    hole--;
                }
                order[hole] = i;
            }
        }

        /** So many beginnings of this depth are open; so many numbers have their lengths. */
        private void spread(int depth, int open, int placed) {
            int left = count - placed;
            if (depth > MAX_NUMBERS || open > left) {
                return;
            }
            if (open == left) {
                for (int i = placed; i < count; i++) {
                    rising[i] = depth;
                }
                weigh();
                return;
            }
            for (int ended = 0; ended < open; ended++) {
                if (ended > 0) {
                    rising[placed + ended - 1] = depth;
                }
                spread(depth + 1, 2 * (open - ended), placed + ended);
            }
        }

        private void weigh() {
            int cost = 0;
            for (int i = 0; i < count; i++) {
                trial[order[i]] = rising[i];
                cost += rising[i] * often[order[i]];
            }
            if (cost < total || cost == total && isEarlier()) {
                total = cost;
                System.arraycopy(trial, 0, lengths, 0, count);
            }
        }

        private boolean isEarlier() {
            for (int i = 0; i < count; i++) {
                if (trial[i] != lengths[i]) {
                    return trial[i] < lengths[i];
                }
            }
            return false;
        }
    }

    /** SIGHTS, and the TIME at which they are TOLD and UNTOLD. */
    private static final class Sights {
        int count = 0;
        int time = 0;
        private final int[] night = new int[MAX_SIGHTS];
        private final int[] keeper = new int[MAX_SIGHTS];
        private final int[] square = new int[MAX_SIGHTS];
        private final int[] man = new int[MAX_SIGHTS];
        private final int[] toldAt = new int[MAX_SIGHTS];
        private final int[] untoldAt = new int[MAX_SIGHTS];

        int tell(int behind, int whose, int where, int what) {
            if (count >= MAX_SIGHTS) {
                return NONE;
            }
            night[count] = behind;
            keeper[count] = whose;
            square[count] = where;
            man[count] = what;
            toldAt[count] = time;
            untoldAt[count] = NONE;
            count++;
            return count - 1;
        }

        boolean takeBack(int sight) {
            if (sight < 0 || sight >= count || untoldAt[sight] != NONE) {
                return false;
            }
            untoldAt[sight] = time;
            return true;
        }

        private boolean countsAt(int sight, int known) {
            return toldAt[sight] <= known && (untoldAt[sight] == NONE || untoldAt[sight] > known);
        }

        /** Whether all that count are so behind a NIGHT. */
        boolean areSo(int behind, int known, Position white, Position black) {
            for (int i = 0; i < count; i++) {
                if (night[i] == behind && countsAt(i, known)) {
                    Position board = keeper[i] == WHITE ? white : black;
                    if (board.manOn(square[i]) != man[i]) {
                        return false;
                    }
                }
            }
            return true;
        }
    }

    /** STORMS: tries each of the first flashes heard and lost, as far as the NIGHTS can be so. */
    private static final class Storms {
        int sets = 0;
        int lostForSure = 0;
        int heardForSure = 0;
        int fewest = NONE;
        private final Laws laws;
        private final Nights nights;
        private final Sights sights;
        private final Position[] white = new Position[STORM_NIGHTS + 1];
        private final Position[] black = new Position[STORM_NIGHTS + 1];
        private int known = 0;

        Storms(Laws laws, Nights nights, Sights sights) {
            this.laws = laws;
            this.nights = nights;
            this.sights = sights;
            for (int i = 0; i <= STORM_NIGHTS; i++) {
                white[i] = new Position();
                black[i] = new Position();
            }
        }

        void begin(int knownAt) {
            known = knownAt;
            sets = 0;
            lostForSure = 0;
            heardForSure = 0;
            fewest = NONE;
            white[0].copyOf(nights.start());
            black[0].copyOf(nights.start());
        }

        /** From a NIGHT on, so many flashes being settled: these lost. The BOARDS ahead of it stand in row settled. */
        private void goOn(int from, int settled, int lost) {
            for (int night = from; night < nights.count; night++) {
                if (nights.flasher[night] != NONE && settled < STORM_NIGHTS) {
                    for (int squall = 0; squall <= 1; squall++) {
                        white[settled + 1].copyOf(white[settled]);
                        black[settled + 1].copyOf(black[settled]);
                        if (canHappen(night, settled + 1, squall == 0)) {
                            goOn(night + 1, settled + 1, lost | squall << settled);
                        }
                    }
                    return;
                }
                if (!canHappen(night, settled, nights.heard[night])) {
                    return;
                }
            }
            add(settled, lost);
        }

        /** The NIGHT goes over a row's BOARDS: false if the flasher could not make his MOVE, or a SIGHT is not so. */
        private boolean canHappen(int night, int row, boolean heard) {
            int keeper = nights.flasher[night];
            if (keeper != NONE) {
                int number = nights.number[night];
                Position own = keeper == WHITE ? white[row] : black[row];
                Position others = keeper == WHITE ? black[row] : white[row];
                if (!laws.make(own, keeper, number)) {
                    return false;
                }
                if (heard) {
                    laws.make(others, keeper, number);
                }
            }
            return sights.areSo(night, known, white[row], black[row]);
        }

        private void add(int settled, int lost) {
            int heard = ~lost & (1 << settled) - 1;
            int losses = Integer.bitCount(lost);
            lostForSure = sets == 0 ? lost : lostForSure & lost;
            heardForSure = sets == 0 ? heard : heardForSure & heard;
            fewest = sets == 0 ? losses : Math.min(fewest, losses);
            sets++;
        }
    }
}
