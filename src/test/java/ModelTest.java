import java.lang.reflect.InvocationTargetException;
import java.lang.reflect.Method;
import java.nio.charset.StandardCharsets;
import java.util.ArrayList;
import java.util.List;
import java.util.Random;
import java.util.Set;

/** All promises: long random runs, each call's answer held against the plain model's. */
public final class ModelTest {
    private static final int[] EDGES = {-1, -2, 2, 3, 4, 5, 9, 29, 30, 31, 60, 61, 1000, 1001, 100000,
        Integer.MIN_VALUE, Integer.MAX_VALUE};
    private static final Set<String> KEEPER_FIRST =
        Set.of("at", "turn", "moves", "move", "lost", "value", "night", "could", "lawful", "lawfulAt");
    private static final String[] WORDS = {"board", "by", "piece", "king", "leap", "ride", "forward", "white", "black",
        "at", "flash", ";", "0", "1", "6", "7", "1000", "00001", "k", "abcdefgh", "abcdefghi", "x9", "9x", "?", "\t", "\n"};

    private final Random random;
    private final StraitGame real = new StraitGame();
    private final PlainModel plain = new PlainModel();
    private final List<String> calls = new ArrayList<>();
    private static long compared = 0;
    private int left = 512;

    private ModelTest(long seed) {
        random = new Random(seed);
    }

    public static void main(String[] args) throws ReflectiveOperationException {
        int runs = args.length > 0 ? Integer.parseInt(args[0]) : 150;
        int first = args.length > 1 ? Integer.parseInt(args[1]) : 0;
        for (int seed = first; seed < first + runs; seed++) {
            String wrong = new ModelTest(seed).run();
            if (wrong != null) {
                System.out.println("seed " + seed + ": " + wrong);
                System.exit(1);
            }
        }
        System.out.println("ModelTest: " + compared + " answers, 0 wrong");
    }

    private String run() throws ReflectiveOperationException {
        String wrong = random.nextInt(8) == 0 ? null : newGame(true);
        while (left > 0 && wrong == null) {
            wrong = someCalls();
        }
        return wrong;
    }

    private String someCalls() throws ReflectiveOperationException {
        int dice = random.nextInt(300);
        if (dice < 2) {
            return newGame(dice == 0);
        }
        if (dice < 4) {
            return newGame(false);
        }
        if (dice < 120) {
            return playOn();
        }
        if (dice < 140) {
            String wrong = call("undo");
            return wrong != null || random.nextInt(3) > 0 ? wrong : call("redo");
        }
        if (dice < 170) {
            return tellSight();
        }
        return any();
    }

    private String playOn() throws ReflectiveOperationException {
        int keeper = plain.turn(0) == 0 ? 0 : 1;
        if (plain.turn(0) != plain.turn(1) && random.nextInt(4) > 0) {
            return random.nextInt(3) > 0 ? call("undo") : call("back", random.nextInt(3));
        }
        if (random.nextInt(12) == 0) {
            return call("blank");
        }
        int moves = plain.moves(keeper);
        return call("night", keeper, moves > 0 ? random.nextInt(moves) : 0, random.nextInt(8) > 0);
    }

    /** One that mostly is so, as else no sets would be left. */
    private String tellSight() throws ReflectiveOperationException {
        int nights = plain.about(3);
        int squares = Math.max(1, plain.about(0));
        int square = random.nextInt(squares);
        int keeper = random.nextInt(2);
        int man = plain.at(keeper, square);
        if (random.nextInt(6) == 0) {
            man = random.nextInt(5) - 1;
        }
        int night = random.nextInt(5) > 0 ? nights - 1 : random.nextInt(nights + 1);
        String wrong = call("sight", night, keeper, square, man < 0 ? -1 : man / 2, man < 0 ? 0 : man % 2);
        if (wrong == null && random.nextInt(3) == 0) {
            wrong = call("untell", random.nextInt(plain.about(5) + 1));
        }
        return wrong != null || random.nextInt(2) == 0 ? wrong : call("later", random.nextInt(3));
    }

    private String any() throws ReflectiveOperationException {
        String[] names = {"fault", "at", "turn", "moves", "move", "lost", "value", "night", "book", "differ", "since",
            "could", "lawful", "lawfulAt", "code", "length", "sight", "untell", "later", "storms", "image", "back",
            "about", "end", "redo", "could", "lawful", "lawfulAt", "storms", "storms", "value", "move", "move"};
        String name = names[random.nextInt(names.length)];
        Method method = find(name);
        Object[] args = new Object[method.getParameterCount()];
        for (int i = 0; i < args.length; i++) {
            boolean isKeeper = i == 0 && KEEPER_FIRST.contains(name);
            args[i] = method.getParameterTypes()[i] == boolean.class ? (Object) random.nextBoolean() : (Object) some(isKeeper ? 2 : 5);
        }
        return call(name, args);
    }

    private int some(int usual) {
        int dice = random.nextInt(40);
        if (dice < 2) {
            return EDGES[random.nextInt(EDGES.length)];
        }
        return dice < 34 ? random.nextInt(usual) : random.nextInt(30);
    }

    private String newGame(boolean whole) throws ReflectiveOperationException {
        String text = text();
        for (int n = whole ? 0 : 1 + random.nextInt(3); n > 0; n--) {
            text = spoilt(text);
        }
        byte[] bytes = text.getBytes(StandardCharsets.ISO_8859_1);
        String wrong = call("end", 0);
        for (int at = 0; at < bytes.length && wrong == null; at += 20) {
            wrong = call("feed", Check.fourBytes(bytes, at), Check.fourBytes(bytes, at + 4),
                Check.fourBytes(bytes, at + 8), Check.fourBytes(bytes, at + 12), Check.fourBytes(bytes, at + 16));
        }
        wrong = wrong != null ? wrong : call("end", bytes.length);
        wrong = wrong != null ? wrong : call("game");
        wrong = wrong != null ? wrong : call("fault", 0);
        return wrong != null ? wrong : call("fault", 1);
    }

    private String text() {
        StringBuilder text = new StringBuilder();
        int files = 1 + random.nextInt(5);
        int ranks = 1 + random.nextInt(6);
        text.append("board ").append(files).append(" by ").append(ranks).append(";");
        int pieces = 1 + random.nextInt(random.nextInt(8) == 0 ? 7 : 4);
        for (int i = 0; i < pieces; i++) {
            text.append("piece ").append((char) ('a' + i)).append(i == 0 || random.nextInt(6) == 0 ? " king" : "");
            for (int ways = random.nextInt(4); ways >= 0; ways--) {
                int b = random.nextInt(5);
                int a = random.nextInt(b == 0 ? 1 : random.nextInt(4) + 1) + (b == 0 ? 1 : 0);
                int dice = random.nextInt(5);
                text.append(dice == 0 && text.lastIndexOf("forward") < text.lastIndexOf(";") ? " forward"
                    : (dice < 3 ? " leap " : " ride ") + a + " " + b);
            }
            text.append(random.nextInt(5) == 0 ? " \n; " : ";");
        }
        List<Integer> free = new ArrayList<>();
        for (int i = 0; i < files * ranks; i++) {
            free.add(i);
        }
        int men = Math.min(free.size(), 1 + random.nextInt(12));
        for (int i = 0; i < men; i++) {
            int square = free.remove(random.nextInt(free.size()));
            text.append(random.nextBoolean() ? "white " : "black ").append((char) ('a' + random.nextInt(pieces)))
                .append(" at ").append(square % files).append(" ").append(square / files).append(";");
        }
        if (random.nextInt(4) > 0) {
            text.append("flash");
            int most = random.nextBoolean() ? 3 : 999;
            for (int n = 1 + random.nextInt(12); n > 0; n--) {
                text.append(" ").append(1 + random.nextInt(most));
            }
            text.append(";");
        }
        return text.toString();
    }

    private String spoilt(String text) {
        int at = random.nextInt(text.length() + 1);
        int to = Math.min(text.length(), at + random.nextInt(8));
        switch (random.nextInt(8)) {
            case 5: return numberAt(text, at, "" + random.nextInt(8));
            case 6: return numberAt(text, at, "0");
            case 7: return text.substring(0, at) + text.substring(at).replaceFirst("[a-f] at", (char) ('a' + random.nextInt(7)) + " at");
            case 0: return text.substring(0, at) + text.substring(to);
            case 1: return text.substring(0, at);
            case 2: return text.substring(0, at) + WORDS[random.nextInt(WORDS.length)] + text.substring(to);
            case 3: return text.substring(0, at) + " " + WORDS[random.nextInt(WORDS.length)] + " " + text.substring(at);
            default:
                int line = text.indexOf(';', at) + 1;
                int again = random.nextInt(text.length() + 1);
                int stop = text.indexOf(';', again) + 1;
                return text.substring(0, line) + (stop > again ? text.substring(again, stop) : "") + text.substring(line);
        }
    }

    private static String numberAt(String text, int at, String number) {
        return text.substring(0, at) + text.substring(at).replaceFirst("[0-9]+", number);
    }

    private static Method find(String name) {
        for (Method method : PlainModel.class.getMethods()) {
            if (method.getName().equals(name)) {
                return method;
            }
        }
        throw new IllegalStateException(name);
    }

    private String call(String name, Object... args) throws ReflectiveOperationException {
        if (left == 0) {
            return null;
        }
        left--;
        compared++;
        Method method = find(name);
        Object want = method.invoke(plain, args);
        calls.add(name + java.util.Arrays.toString(args) + " " + want);
        Object got;
        try {
            got = StraitGame.class.getMethod(name, method.getParameterTypes()).invoke(real, args);
        } catch (InvocationTargetException e) {
            got = e.getCause();
        }
        return got.equals(want) ? null : String.join("\n", calls) + " due, answered " + got;
    }
}
