import java.io.IOException;
import java.nio.file.Files;
import java.nio.file.Path;
import java.util.Set;
import java.util.TreeSet;

/** Each boundary case that the document names: its words, and what must be so there. */
public final class EdgesTest {
    private static final Check CHECK = new Check("EdgesTest");
    private static final Check WORDS = new Check("EdgesTest's words");
    private static final Path DOCUMENT = Path.of("../shared/DOC.md");
    private static final int PROMISES = 30;

    public static void main(String[] args) throws IOException {
        new TextEdges(CHECK).run();
        new BoardEdges(CHECK).run();
        new NightEdges(CHECK).run();
        new GuessEdges(CHECK).run();
        new SightEdges(CHECK).run();
        new ImageEdges(CHECK).run();
        everyPromise();
        if (Files.exists(DOCUMENT)) {
            wordsStandThere(inOneLine(Files.readString(DOCUMENT)));
        }
        WORDS.end();
        CHECK.end();
    }

    private static void everyPromise() {
        Set<Integer> named = new TreeSet<>();
        for (Check.Quote quote : CHECK.quotes) {
            named.add(quote.promise());
        }
        for (int promise = 1; promise <= PROMISES; promise++) {
            WORDS.due("promise " + promise + " has words here", named.contains(promise), true);
        }
    }

    /** So that a change of the document is seen here. */
    private static void wordsStandThere(String document) {
        for (Check.Quote quote : CHECK.quotes) {
            String part = document;
            if (quote.promise() > 0) {
                part = part.substring(part.indexOf("## Promise " + quote.promise() + ":"));
                part = part.substring(0, part.indexOf(" ## ") < 0 ? part.length() : part.indexOf(" ## "));
            }
            WORDS.due("the document says: " + quote.words(), part.contains(inOneLine(quote.words())), true);
        }
    }

    private static String inOneLine(String text) {
        return text.replaceAll("\\s+", " ");
    }
}
