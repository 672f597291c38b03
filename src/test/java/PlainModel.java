import java.util.ArrayList;
import java.util.Arrays;
import java.util.HashSet;
import java.util.List;
import java.util.Set;

/** The document said once more in the plainest way, without regard to speed or room, to hold the class against. */
public final class PlainModel {
    /** A piece's ways: {ride (1) or leap (0), a, b}. */
    record Kind(String name, boolean king, List<int[]> ways, boolean forward) { }

    record Flash(int keeper, int number, boolean heard, boolean noticed) { }

    record Image(List<Flash> nights) { }

    record Sight(int night, int keeper, int square, int man, int told, int[] untold) { }

    record Board(List<Integer> squares, int turn) {
        List<Integer> changed(int from, int to) {
            List<Integer> next = new ArrayList<>(squares);
            next.set(to, next.get(from));
            next.set(from, -1);
            return next;
        }
    }

    static final class Game {
        int files;
        int ranks;
        List<Kind> kinds = new ArrayList<>();
        Integer[] start = new Integer[0];
        int men;
        List<Integer> often = new ArrayList<>();
    }

    static final class Fault extends RuntimeException {
        private static final long serialVersionUID = 1;
        final int what;
        final int place;

        Fault(int what, int place) {
            this.what = what;
            this.place = place;
        }
    }

    private static final Set<String> OWN_WORDS = Set.of(
        "board", "by", "piece", "king", "leap", "ride", "forward", "white", "black", "at", "flash");

    private StringBuilder tape = new StringBuilder();
    private Game game = new Game();
    private int fault = 0;
    private int faultPlace = -1;
    private List<Flash> nights = new ArrayList<>();
    private List<Flash> undone = new ArrayList<>();
    private List<Sight> sights = new ArrayList<>();
    private Image[] boxes = new Image[3];
    private int time = 0;
    private int comeTo;

    // ---- the text

    private String text;
    private int at;
    private String token;
    private int place;

    private void next() {
        while (at < text.length() && (text.charAt(at) == ' ' || text.charAt(at) == '\n')) {
            at++;
        }
        place = at;
        String rest = text.substring(at);
        if (rest.isEmpty()) {
            token = "";
        } else if (rest.matches("(?s)[a-z].*")) {
            token = rest.replaceAll("(?s)[^a-z].*", "");
            bad(token.length() > 8);
        } else if (rest.matches("(?s)[0-9].*")) {
            token = rest.replaceAll("(?s)[^0-9].*", "");
            bad(token.length() > 4 || rest.substring(token.length()).matches("(?s)[a-z].*"));
        } else {
            token = ";";
            bad(rest.charAt(0) != ';');
        }
        at += token.length();
    }

    private void bad(boolean isBad) {
        if (isBad) {
            token = "?" + token.substring(1);
        }
    }

    private void need(boolean stands) {
        if (!stands) {
            throw new Fault(token.startsWith("?") ? 1 : 2, place);
        }
    }

    private void word(String wanted) {
        need(token.equals(wanted));
        next();
    }

    private int number(int least, int most) {
        need(token.matches("[0-9]+"));
        int number = Integer.parseInt(token);
        if (number < least || number > most) {
            throw new Fault(4, place);
        }
        return number;
    }

    private Kind named(Game g) {
        need(token.matches("[a-z]+") && !OWN_WORDS.contains(token));
        for (Kind k : g.kinds) {
            if (k.name().equals(token)) {
                return k;
            }
        }
        return null;
    }

    private Game parse() {
        Game g = new Game();
        at = 0;
        next();
        while (!token.isEmpty()) {
            switch (token) {
                case "board" -> board(g);
                case "piece" -> piece(g);
                case "white", "black" -> man(g);
                case "flash" -> flash(g);
                default -> need(false);
            }
            word(";");
        }
        return g;
    }

    private void board(Game g) {
        need(g.files == 0);
        next();
        g.files = number(1, 5);
        next();
        word("by");
        g.ranks = number(1, 6);
        next();
        g.start = new Integer[g.files * g.ranks];
        Arrays.fill(g.start, -1);
    }

    private void piece(Game g) {
        need(g.files > 0 && g.kinds.size() < 6);
        next();
        if (named(g) != null) {
            throw new Fault(3, place);
        }
        String name = token;
        next();
        boolean king = token.equals("king");
        if (king) {
            next();
        }
        List<int[]> ways = new ArrayList<>();
        boolean forward = false;
        while (!token.equals(";")) {
            if (token.equals("forward") && !forward) {
                forward = true;
                next();
                continue;
            }
            need((token.equals("leap") || token.equals("ride")) && ways.size() < 6);
            int ride = token.equals("ride") ? 1 : 0;
            next();
            int a = number(0, 4);
            next();
            int b = number(a == 0 ? 1 : 0, 4);
            next();
            ways.add(new int[] {ride, a, b});
        }
        g.kinds.add(new Kind(name, king, ways, forward));
    }

    private void man(Game g) {
        need(g.files > 0 && g.men < 12);
        int side = token.equals("black") ? 1 : 0;
        next();
        Kind kind = named(g);
        if (kind == null) {
            throw new Fault(5, place);
        }
        next();
        word("at");
        int file = number(0, g.files - 1);
        next();
        int rank = number(0, g.ranks - 1);
        int square = file + g.files * rank;
        if (g.start[square] != -1) {
            throw new Fault(3, place);
        }
        g.start[square] = 2 * g.kinds.indexOf(kind) + side;
        g.men++;
        next();
    }

    private void flash(Game g) {
        need(g.files > 0 && g.often.isEmpty());
        next();
        do {
            need(g.often.size() < 12);
            g.often.add(number(1, 999));
            next();
        } while (!token.equals(";"));
    }

    // ---- positions

    private Board first() {
        return new Board(List.of(game.start), 0);
    }

    private boolean hasKing(List<Integer> squares, int side) {
        for (int man : squares) {
            if (man >= 0 && man % 2 == side && game.kinds.get(man / 2).king()) {
                return true;
            }
        }
        return false;
    }

    private int kingless(Board b) {
        for (int side = 0; side < 2; side++) {
            if (hasKing(first().squares(), side) && !hasKing(b.squares(), side)) {
                return side;
            }
        }
        return -1;
    }

    private boolean goes(Board b, int from, int to) {
        int man = b.squares().get(from);
        int there = b.squares().get(to);
        if (man < 0 || man % 2 != b.turn() || there >= 0 && there % 2 == b.turn()) {
            return false;
        }
        Kind kind = game.kinds.get(man / 2);
        int df = to % game.files - from % game.files;
        int dr = to / game.files - from / game.files;
        if (kind.forward() && dr == (b.turn() == 0 ? 1 : -1)) {
            if (df == 0 && there < 0 || Math.abs(df) == 1 && there >= 0) {
                return true;
            }
        }
        for (int[] way : kind.ways()) {
            for (int many = 1; many <= (way[0] == 1 ? 5 : 1); many++) {
                boolean straight = Math.abs(df) == many * way[1] && Math.abs(dr) == many * way[2];
                boolean turned = Math.abs(df) == many * way[2] && Math.abs(dr) == many * way[1];
                if ((straight || turned) && isFreeBetween(b, from, df / many, dr / many, many)) {
                    return true;
                }
            }
        }
        return false;
    }

    private boolean isFreeBetween(Board b, int from, int df, int dr, int many) {
        for (int i = 1; i < many; i++) {
            if (b.squares().get(from + i * (df + game.files * dr)) >= 0) {
                return false;
            }
        }
        return true;
    }

    private List<int[]> list(Board b) {
        List<int[]> all = new ArrayList<>();
        if (kingless(b) >= 0) {
            return all;
        }
        for (int from = 0; from < b.squares().size(); from++) {
            for (int to = 0; to < b.squares().size(); to++) {
                if (goes(b, from, to)) {
                    all.add(new int[] {from, to});
                }
            }
        }
        return all;
    }

    private int loser(Board b) {
        int side = kingless(b);
        return side >= 0 ? side : list(b).isEmpty() ? b.turn() : -1;
    }

    private Board made(Board b, int[] move) {
        return new Board(b.changed(move[0], move[1]), 1 - b.turn());
    }

    /** Null if it is not that side's turn, or there is no such MOVE. */
    private Board made(Board b, int side, int number) {
        List<int[]> all = list(b);
        return b.turn() != side || number < 0 || number >= all.size() ? null : made(b, all.get(number));
    }

    private int worth(Board b, int n) {
        comeTo++;
        if (comeTo > 30000) {
            return 0;
        }
        int loser = loser(b);
        if (loser >= 0) {
            return loser == b.turn() ? -1 : 1;
        }
        if (n == 0) {
            return 0;
        }
        int best = -1;
        for (int[] move : list(b)) {
            best = Math.max(best, -worth(made(b, move), n - 1));
            if (best == 1 || comeTo > 30000) {
                break;
            }
        }
        return best;
    }

    /** Both BOARDS behind the first many NIGHTS. */
    private Board[] boards(int many) {
        Board[] two = {first(), first()};
        for (Flash f : nights.subList(0, many)) {
            if (f.keeper() >= 0) {
                two[f.keeper()] = made(two[f.keeper()], f.keeper(), f.number());
                Board other = made(two[1 - f.keeper()], f.keeper(), f.number());
                if (f.heard() && other != null) {
                    two[1 - f.keeper()] = other;
                }
            }
        }
        return two;
    }

    private Board now(int keeper) {
        return boards(nights.size())[keeper];
    }

    private static boolean noKeeper(int keeper) {
        return keeper != 0 && keeper != 1;
    }

    // ---- the public face

    public int feed(int a, int b, int c, int d, int e) {
        if (tape.length() > 1580) {
            return -1;
        }
        for (int number : new int[] {a, b, c, d, e}) {
            for (int shift = 24; shift >= 0; shift -= 8) {
                tape.append((char) (number >> shift & 255));
            }
        }
        return tape.length();
    }

    public int end(int n) {
        if (n < 0 || n > tape.length()) {
            return -1;
        }
        tape.setLength(n);
        return n;
    }

    public int game() {
        text = tape.toString();
        fault = 0;
        faultPlace = -1;
        try {
            game = parse();
        } catch (Fault f) {
            fault = f.what;
            faultPlace = f.place;
            return -1;
        }
        tape.setLength(0);
        nights.clear();
        undone.clear();
        sights.clear();
        Arrays.fill(boxes, null);
        return game.men;
    }

    public int fault(int what) {
        return what == 0 ? fault : what == 1 ? faultPlace : -1;
    }

    public int at(int keeper, int square) {
        return noKeeper(keeper) || square < 0 || square >= game.start.length ? -1 : now(keeper).squares().get(square);
    }

    public int turn(int keeper) {
        return noKeeper(keeper) ? -1 : now(keeper).turn();
    }

    public int moves(int keeper) {
        return noKeeper(keeper) ? -1 : list(now(keeper)).size();
    }

    public int move(int keeper, int move, int what) {
        if (noKeeper(keeper) || what < 0 || what > 2 || move < 0 || move >= moves(keeper)) {
            return -2;
        }
        int[] found = list(now(keeper)).get(move);
        return what < 2 ? found[what] : at(keeper, found[1]);
    }

    public int lost(int keeper) {
        return noKeeper(keeper) ? -2 : loser(now(keeper));
    }

    public int value(int keeper, int n) {
        if (noKeeper(keeper) || n < 0 || n > 4) {
            return -3;
        }
        comeTo = 0;
        int worth = worth(now(keeper), n);
        return comeTo > 30000 ? -2 : worth;
    }

    public int night(int keeper, int move, boolean heard) {
        if (noKeeper(keeper) || nights.size() == 60 || made(now(keeper), keeper, move) == null) {
            return -1;
        }
        boolean noticed = heard && made(now(1 - keeper), keeper, move) == null;
        nights.add(new Flash(keeper, move, heard, noticed));
        undone.clear();
        return nights.size() - 1;
    }

    public int blank() {
        if (nights.size() == 60) {
            return -1;
        }
        nights.add(new Flash(-1, -1, false, false));
        undone.clear();
        return nights.size() - 1;
    }

    public boolean undo() {
        return !nights.isEmpty() && undone.add(nights.remove(nights.size() - 1));
    }

    public boolean redo() {
        return !undone.isEmpty() && nights.add(undone.remove(undone.size() - 1));
    }

    public int book(int night, int what) {
        if (night < 0 || night >= nights.size() || what < 0 || what > 3) {
            return -2;
        }
        Flash f = nights.get(night);
        return new int[] {f.keeper(), f.number(), f.heard() ? 1 : 0, f.noticed() ? 1 : 0}[what];
    }

    public int differ() {
        int count = 0;
        for (int i = 0; i < game.start.length; i++) {
            count += at(0, i) != at(1, i) ? 1 : 0;
        }
        return count;
    }

    public int since() {
        int answer = -1;
        for (int n = 0; n < nights.size(); n++) {
            Board[] two = boards(n + 1);
            answer = two[0].equals(two[1]) ? -1 : answer == -1 ? n : answer;
        }
        return answer;
    }

    private Set<Board> guesses(int keeper) {
        List<Integer> own = new ArrayList<>();
        for (int n = 0; n < nights.size(); n++) {
            if (nights.get(n).keeper() == keeper) {
                own.add(n);
            }
        }
        List<Integer> doubted = own.subList(Math.max(0, own.size() - 6), own.size());
        Set<Board> all = new HashSet<>();
        for (int set = 0; set < 1 << doubted.size(); set++) {
            Board b = first();
            for (int n = 0; n < nights.size() && b != null; n++) {
                Flash f = nights.get(n);
                boolean heard = doubted.contains(n) ? (set >> doubted.indexOf(n) & 1) == 1 : f.heard();
                Board then = f.keeper() >= 0 && heard ? made(b, f.keeper(), f.number()) : b;
                b = then == null && f.keeper() == keeper ? b : then;
            }
            if (b != null) {
                all.add(b);
            }
        }
        return all;
    }

    public int could(int keeper) {
        return noKeeper(keeper) ? -1 : guesses(keeper).size();
    }

    private List<Integer> safe(int keeper) {
        List<Integer> numbers = new ArrayList<>();
        List<int[]> all = list(now(keeper));
        Set<Board> guesses = guesses(keeper);
        for (int i = 0; i < all.size() && turn(keeper) == keeper; i++) {
            int[] move = all.get(i);
            boolean everywhere = true;
            for (Board b : guesses) {
                everywhere &= b.turn() == keeper && list(b).stream().anyMatch(m -> Arrays.equals(m, move));
            }
            if (everywhere) {
                numbers.add(i);
            }
        }
        return numbers;
    }

    public int lawful(int keeper) {
        return noKeeper(keeper) ? -1 : safe(keeper).size();
    }

    public int lawfulAt(int keeper, int i) {
        return noKeeper(keeper) || i < 0 || i >= safe(keeper).size() ? -1 : safe(keeper).get(i);
    }

    /** By what is left of all beginnings, in 2048ths: the fewest flashes for the numbers from i on. */
    private int[] lengths() {
        int n = game.often.size();
        if (n < 2) {
            return n == 0 ? new int[0] : new int[] {1};
        }
        int[][] fewest = new int[n + 1][2049];
        for (int i = n - 1; i >= 0; i--) {
            for (int room = 0; room <= 2048; room++) {
                fewest[i][room] = 1 << 28;
                for (int length = 1; length <= 11 && i < n; length++) {
                    int left = room - (2048 >> length);
                    if (left >= 0) {
                        fewest[i][room] = Math.min(fewest[i][room], length * game.often.get(i) + fewest[i + 1][left]);
                    }
                }
            }
        }
        int[] lengths = new int[n];
        int room = 2048;
        for (int i = 0; i < n; i++) {
            int length = 1;
            while (room < 2048 >> length
                || length * game.often.get(i) + fewest[i + 1][room - (2048 >> length)] != fewest[i][room]) {
                length++;
            }
            lengths[i] = length;
            room -= 2048 >> length;
        }
        return lengths;
    }

    public int code() {
        int[] lengths = lengths();
        int sum = 0;
        for (int i = 0; i < lengths.length; i++) {
            sum += lengths[i] * game.often.get(i);
        }
        return sum;
    }

    public int length(int i) {
        return i < 0 || i >= game.often.size() ? -1 : lengths()[i];
    }

    public int sight(int night, int keeper, int square, int piece, int side) {
        if (night < 0 || night >= nights.size() || noKeeper(keeper) || square < 0 || square >= game.start.length
            || piece < -1 || piece >= game.kinds.size() || side < 0 || side > 1 || sights.size() == 30) {
            return -1;
        }
        sights.add(new Sight(night, keeper, square, piece < 0 ? -1 : 2 * piece + side, time, new int[] {1 << 30}));
        return sights.size() - 1;
    }

    public boolean untell(int sight) {
        if (sight < 0 || sight >= sights.size() || sights.get(sight).untold()[0] != 1 << 30) {
            return false;
        }
        sights.get(sight).untold()[0] = time;
        return true;
    }

    public int later(int by) {
        if (by < 0 || by > 1000 || time + by > 100000) {
            return -1;
        }
        time += by;
        return time;
    }

    private boolean isSo(int set, List<Integer> flashes, int k) {
        Board[] two = {first(), first()};
        for (int n = 0; n < nights.size(); n++) {
            Flash f = nights.get(n);
            if (f.keeper() >= 0) {
                boolean heard = flashes.contains(n) ? (set >> flashes.indexOf(n) & 1) == 0 : f.heard();
                two[f.keeper()] = made(two[f.keeper()], f.keeper(), f.number());
                if (two[f.keeper()] == null) {
                    return false;
                }
                Board other = made(two[1 - f.keeper()], f.keeper(), f.number());
                two[1 - f.keeper()] = heard && other != null ? other : two[1 - f.keeper()];
            }
            for (Sight s : sights) {
                boolean counts = s.night() == n && s.told() <= k && !(s.untold()[0] != 1 << 30 && s.untold()[0] <= k);
                if (counts && two[s.keeper()].squares().get(s.square()) != s.man()) {
                    return false;
                }
            }
        }
        return true;
    }

    public int storms(int what, int k) {
        List<Integer> flashes = new ArrayList<>();
        for (int n = 0; n < nights.size() && flashes.size() < 10; n++) {
            if (nights.get(n).keeper() >= 0) {
                flashes.add(n);
            }
        }
        int all = (1 << flashes.size()) - 1;
        int[] answer = {0, all, all, 99};
        for (int set = 0; set <= all; set++) {
            if (isSo(set, flashes, k)) {
                answer[0]++;
                answer[1] &= set;
                answer[2] &= ~set;
                answer[3] = Math.min(answer[3], Integer.bitCount(set));
            }
        }
        if (answer[0] == 0) {
            answer = new int[] {0, 0, 0, -1};
        }
        return what < 0 || what > 3 ? -2 : answer[what];
    }

    public int image(int box) {
        if (box < 0 || box > 2) {
            return -1;
        }
        boxes[box] = new Image(new ArrayList<>(nights));
        return nights.size();
    }

    public int back(int box) {
        if (box < 0 || box > 2 || boxes[box] == null) {
            return -1;
        }
        nights = new ArrayList<>(boxes[box].nights());
        undone.clear();
        return nights.size();
    }

    public int about(int what) {
        switch (what) {
            case 0: return game.start.length;
            case 1: return game.kinds.size();
            case 2: return game.men;
            case 3: return nights.size();
            case 4: return undone.size();
            case 5: return sights.size();
            case 6: return time;
            case 7: return tape.length();
            case 8: return game.often.size();
            case 9: return (int) nights.stream().filter(Flash::noticed).count();
            default: return -1;
        }
    }
}
