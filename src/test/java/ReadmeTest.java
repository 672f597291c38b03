import java.io.IOException;
import java.lang.reflect.Method;
import java.nio.file.Files;
import java.nio.file.Path;
import java.util.Set;
import java.util.TreeSet;
import java.util.regex.Matcher;
import java.util.regex.Pattern;

/** README.md's own example: each call must be there, and answer what stands behind it; each test must be told of. */
public final class ReadmeTest {
    private static final Check CHECK = new Check("ReadmeTest");
    private static final Pattern BLOCK = Pattern.compile("(?s)```java\n(.*?)```");
    private static final Pattern TOLD = Pattern.compile("tell\\(x, \"(.*)\"\\);");
    private static final Pattern CALL = Pattern.compile("x\\.(\\w+)\\(([^)]*)\\); +// (true|false|-?\\d+)\\b.*");

    private static void tell(StraitGame x, String text) {
        int ahead = x.about(7);
        for (int i = 0; i < text.length(); i += 20) {
            x.feed(four(text, i), four(text, i + 4), four(text, i + 8), four(text, i + 12), four(text, i + 16));
        }
        x.end(ahead + text.length());
    }

    private static int four(String text, int from) {
        int number = 0;
        for (int i = from; i < from + 4; i++) {
            number = number << 8 | (i < text.length() ? text.charAt(i) : ' ');
        }
        return number;
    }

    public static void main(String[] args) throws IOException, ReflectiveOperationException {
        String readme = Files.readString(Path.of("README.md"));
        Matcher blocks = BLOCK.matcher(readme);
        CHECK.due("the functions that feed a text", blocks.find(), true);
        String self = Files.readString(Path.of("src/test/java/ReadmeTest.java"));
        String functions = blocks.group(1).replace("static ", "private static ");
        CHECK.due("they are this test's own", oneLine(self).contains(oneLine(functions)), true);
        CHECK.due("an example", blocks.find(), true);
        example(blocks.group(1));
        tests(readme);
        CHECK.end();
    }

    private static String oneLine(String text) {
        return text.replaceAll("\\s+", " ").strip();
    }

    private static void example(String block) throws ReflectiveOperationException {
        StraitGame x = new StraitGame();
        Set<String> shown = new TreeSet<>(Set.of("feed", "end"));
        for (String line : block.split("\n")) {
            Matcher told = TOLD.matcher(line);
            Matcher call = CALL.matcher(line);
            if (told.matches()) {
                tell(x, told.group(1));
            } else if (call.matches()) {
                CHECK.due("README.md: " + line, answer(x, call.group(1), call.group(2)), wanted(call.group(3)));
                shown.add(call.group(1));
            } else {
                CHECK.due("README.md has a line without an answer: " + line, line.equals("StraitGame x = new StraitGame();"), true);
            }
        }
        for (Method m : StraitGame.class.getMethods()) {
            if (m.getDeclaringClass() == StraitGame.class) {
                CHECK.due("README.md shows " + m.getName(), shown.contains(m.getName()), true);
            }
        }
    }

    private static long wanted(String answer) {
        return answer.equals("true") ? 1 : answer.equals("false") ? 0 : Long.parseLong(answer);
    }

    private static long answer(StraitGame x, String name, String given) throws ReflectiveOperationException {
        String[] words = given.isEmpty() ? new String[0] : given.split(", ");
        for (Method m : StraitGame.class.getMethods()) {
            if (m.getName().equals(name) && m.getParameterCount() == words.length) {
                Object[] values = new Object[words.length];
                for (int i = 0; i < words.length; i++) {
                    boolean flag = m.getParameterTypes()[i] == boolean.class;
                    values[i] = flag ? (Object) Boolean.valueOf(words[i]) : (Object) Integer.valueOf(words[i]);
                }
                Object got = m.invoke(x, values);
                return got instanceof Boolean b ? (b ? 1 : 0) : (Integer) got;
            }
        }
        throw new IllegalStateException("no such call: " + name);
    }

    private static void tests(String readme) throws IOException {
        try (var files = Files.list(Path.of("src/test/java"))) {
            for (String name : files.map(f -> f.getFileName().toString()).toList()) {
                if (name.endsWith("Test.java")) {
                    CHECK.due("README.md tells of " + name, readme.contains("| `" + name.replace(".java", "") + "` |"), true);
                }
            }
        }
    }
}
