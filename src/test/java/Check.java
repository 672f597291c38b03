import java.nio.charset.StandardCharsets;
import java.util.ArrayList;
import java.util.List;

/** What the tests share: counting wrong answers, feeding texts, and the document's words that a check is there for. */
final class Check {
    /** A promise's number (0: of the Terms) and words of it, as they stand in the document. */
    record Quote(int promise, String words) { }

    final List<Quote> quotes = new ArrayList<>();
    private final String name;
    private int calls = 0;
    private int wrong = 0;
    private int callsAtQuote = 0;

    Check(String name) {
        this.name = name;
    }

    void says(int promise, String words) {
        endOfQuote();
        quotes.add(new Quote(promise, words));
        callsAtQuote = calls;
    }

    /** Words that are told, but held by no check, are wrong themselves. */
    private void endOfQuote() {
        if (!quotes.isEmpty() && calls == callsAtQuote) {
            fail("no check for: " + quotes.get(quotes.size() - 1).words());
        }
    }

    void due(String call, long got, long want) {
        calls++;
        if (got != want) {
            fail(call + " answered " + got + ", due is " + want);
        }
    }

    void due(String call, boolean got, boolean want) {
        due(call, got ? 1 : 0, want ? 1 : 0);
    }

    private void fail(String how) {
        wrong++;
        System.out.println(name + ": " + how);
        if (!quotes.isEmpty()) {
            Quote last = quotes.get(quotes.size() - 1);
            System.out.println("  (" + (last.promise() == 0 ? "Terms" : "promise " + last.promise()) + ": " + last.words() + ")");
        }
    }

    /** A text without a FAULT, and what it tells. */
    void sound(String text, int squares, int pieces, int men) {
        StraitGame x = new StraitGame();
        put(x, text);
        due("game() of " + text, x.game(), men);
        due("fault(0) of " + text, x.fault(0), 0);
        due("fault(1) of " + text, x.fault(1), -1);
        due("about(0) of " + text, x.about(0), squares);
        due("about(1) of " + text, x.about(1), pieces);
        due("about(2) of " + text, x.about(2), men);
    }

    /** A ^ in the text marks the FAULT's place. */
    void fault(String marked, int fault) {
        StraitGame x = new StraitGame();
        int place = marked.indexOf('^');
        put(x, marked.substring(0, place) + marked.substring(place + 1));
        due("game() of " + marked, x.game(), -1);
        due("fault(0) of " + marked, x.fault(0), fault);
        due("fault(1) of " + marked, x.fault(1), place);
        due("about(0) of " + marked, x.about(0), 0);
    }

    /** All MOVES of keeper 0's BOARD, as from>to. */
    void moves(StraitGame x, String want) {
        StringBuilder all = new StringBuilder();
        for (int i = 0; i < x.moves(0); i++) {
            all.append(i > 0 ? " " : "").append(x.move(0, i, 0)).append('>').append(x.move(0, i, 1));
        }
        due("MOVES " + all + " for " + want, all.toString().equals(want), true);
    }

    void storms(StraitGame x, int k, int sets, int lost, int heard, int fewest) {
        due("storms(0, " + k + ")", x.storms(0, k), sets);
        due("storms(1, " + k + ")", x.storms(1, k), lost);
        due("storms(2, " + k + ")", x.storms(2, k), heard);
        due("storms(3, " + k + ")", x.storms(3, k), fewest);
    }

    void book(StraitGame x, int night, int who, int number, int heard, int noticed) {
        due("book(" + night + ", 0)", x.book(night, 0), who);
        due("book(" + night + ", 1)", x.book(night, 1), number);
        due("book(" + night + ", 2)", x.book(night, 2), heard);
        due("book(" + night + ", 3)", x.book(night, 3), noticed);
    }

    void end() {
        endOfQuote();
        System.out.println(name + ": " + calls + " answers, " + wrong + " wrong");
        if (wrong > 0) {
            System.exit(1);
        }
    }

    /** The text comes on the TAPE behind what is there. */
    static void put(StraitGame x, String text) {
        byte[] bytes = text.getBytes(StandardCharsets.ISO_8859_1);
        int before = x.about(7);
        int[] five = new int[5];
        for (int at = 0; at < bytes.length; at += 20) {
            for (int i = 0; i < 5; i++) {
                five[i] = fourBytes(bytes, at + 4 * i);
            }
            x.feed(five[0], five[1], five[2], five[3], five[4]);
        }
        x.end(before + bytes.length);
    }

    static int fourBytes(byte[] bytes, int at) {
        int number = 0;
        for (int i = at; i < at + 4; i++) {
            number = number << 8 | (i < bytes.length ? bytes[i] & 255 : 32);
        }
        return number;
    }

    static StraitGame play(String text) {
        StraitGame x = new StraitGame();
        put(x, text);
        if (x.game() < 0) {
            throw new IllegalStateException("fault " + x.fault(0) + " at " + x.fault(1) + ": " + text);
        }
        return x;
    }
}
