import java.io.IOException;
import java.lang.reflect.Constructor;
import java.lang.reflect.Field;
import java.lang.reflect.Method;
import java.lang.reflect.Modifier;
import java.nio.file.Files;
import java.nio.file.Path;
import java.util.ArrayList;
import java.util.Arrays;
import java.util.List;
import java.util.Set;
import java.util.TreeSet;
import java.util.regex.Matcher;
import java.util.regex.Pattern;

/** LANGUAGE.md, as far as the text and the compiled class show it: the face, the words, the sizes. */
public final class RulesTest {
    private static final Check CHECK = new Check("RulesTest");
    private static final List<String> FACE = List.of(
        "int feed(int,int,int,int,int)", "int end(int)", "int game()", "int fault(int)", "int at(int,int)",
        "int turn(int)", "int moves(int)", "int move(int,int,int)", "int lost(int)", "int value(int,int)",
        "int night(int,int,boolean)", "int blank()", "boolean undo()", "boolean redo()", "int book(int,int)",
        "int differ()", "int since()", "int could(int)", "int lawful(int)", "int lawfulAt(int,int)", "int code()",
        "int length(int)", "int sight(int,int,int,int,int)", "boolean untell(int)", "int later(int)",
        "int storms(int,int)", "int image(int)", "int back(int)", "int about(int)");

    public static void main(String[] args) throws IOException {
        String source = Files.readString(Path.of("src/main/java/StraitGame.java"));
        String code = source.replaceAll("(?s)/\\*.*?\\*/", " ").replaceAll("//[^\n]*", " ").replaceAll("\"[^\"\n]*\"", "\"\"");
        face();
        names();
        words(code);
        imports(code);
        copies(code);
        sizes(code);
        fields();
        CHECK.end();
    }

    private static void face() {
        Set<String> found = new TreeSet<>();
        for (Method m : StraitGame.class.getDeclaredMethods()) {
            if (!Modifier.isPrivate(m.getModifiers())) {
                CHECK.due("public " + m.getName(), Modifier.isPublic(m.getModifiers()), true);
                String types = String.join(",", Arrays.stream(m.getParameterTypes()).map(Class::getName).toList());
                found.add(m.getReturnType() + " " + m.getName() + "(" + types + ")");
            }
        }
        CHECK.due("the face is " + found, found.equals(new TreeSet<>(FACE)), true);
        CHECK.due("final", Modifier.isFinal(StraitGame.class.getModifiers()), true);
        Constructor<?>[] made = StraitGame.class.getDeclaredConstructors();
        CHECK.due("constructors", made.length, 1);
        CHECK.due("its parameters", made[0].getParameterCount(), 0);
        for (Field f : StraitGame.class.getDeclaredFields()) {
            CHECK.due("private " + f.getName(), Modifier.isPrivate(f.getModifiers()), !f.getName().equals("NONE"));
        }
        for (Class<?> c : StraitGame.class.getDeclaredClasses()) {
            CHECK.due("static " + c, Modifier.isStatic(c.getModifiers()), true);
        }
    }

    private static List<Class<?>> classes() {
        List<Class<?>> all = new ArrayList<>(List.of(StraitGame.class.getDeclaredClasses()));
        all.add(StraitGame.class);
        return all;
    }

    private static void names() {
        Set<String> open = new TreeSet<>();
        for (String method : FACE) {
            open.add(method.replaceAll(".* |\\(.*", ""));
        }
        for (Class<?> c : classes()) {
            for (Method m : c.getDeclaredMethods()) {
                boolean own = c == StraitGame.class && Modifier.isPublic(m.getModifiers());
                CHECK.due(c + " has " + m.getName(), !own && open.contains(m.getName()), false);
                CHECK.due(c + " " + m.getName() + "'s parameters", m.getParameterCount() <= 7, true);
            }
        }
    }

    private static void words(String code) {
        for (String word : List.of("throw", "throws", "try", "catch", "finally", "synchronized", "assert", "volatile",
            "native", "System\\.out", "Object", "Random", "Thread", "numberOfTrailingZeros", "\\w+Exact", "var")) {
            CHECK.due("the word " + word, Pattern.compile("\\b" + word + "\\b").matcher(code).find(), false);
        }
        CHECK.due("a lambda", code.contains("->"), false);
        CHECK.due("a method reference", code.contains("::"), false);
        CHECK.due("an anonymous class", Pattern.compile("new \\w+\\([^)]*\\)\\s*\\{").matcher(code).find(), false);
        CHECK.due("a static block", Pattern.compile("static\\s*\\{").matcher(code).find(), false);
        CHECK.due("a package", code.contains("package "), false);
        CHECK.due("signs 1 to 127", code.chars().allMatch(c -> c > 0 && c < 128), true);
    }

    private static void imports(String code) {
        Matcher m = Pattern.compile("import ([\\w.]+);").matcher(code);
        while (m.find()) {
            CHECK.due("import " + m.group(1), Set.of("java.util.Arrays", "java.util.ArrayList", "java.util.List").contains(m.group(1)), true);
        }
    }

    /** Rule 4: the library copies and fills arrays of numbers alone. */
    private static void copies(String code) {
        Matcher m = Pattern.compile("(?:System|Arrays)\\.\\w+\\((\\w+), [^;]*;").matcher(code);
        while (m.find()) {
            int fields = 0;
            for (Class<?> c : classes()) {
                for (Field f : c.getDeclaredFields()) {
                    if (f.getName().equals(m.group(1))) {
                        fields++;
                        Class<?> element = f.getType().getComponentType();
                        boolean numbers = element != null && element.isPrimitive() && element != boolean.class;
                        CHECK.due("numbers in " + m.group(), numbers, true);
                    }
                }
            }
            CHECK.due("a row that is known in " + m.group(), fields > 0, true);
        }
    }

    private static void sizes(String code) {
        CHECK.due("classes, " + classes().size(), classes().size() <= 12, true);
        int start = -1;
        String[] lines = code.split("\n");
        for (int i = 0; i < lines.length; i++) {
            if (lines[i].matches(" {4,8}[\\w\\[\\] ]+\\([^;]*\\{") && !lines[i].contains("class ")) {
                start = i;
            }
            if (start >= 0 && lines[i].matches(" {4,8}}") && lines[i].indexOf('}') == lines[start].length() - lines[start].stripLeading().length()) {
                CHECK.due("lines of" + lines[start], i - start < 60, true);
                start = -1;
            }
        }
    }

    private static void fields() {
        for (Class<?> c : classes()) {
            int own = 0;
            for (Field f : c.getDeclaredFields()) {
                boolean isStatic = Modifier.isStatic(f.getModifiers());
                own += isStatic ? 0 : 1;
                CHECK.due("static and not final: " + f, isStatic && !Modifier.isFinal(f.getModifiers()), false);
            }
            CHECK.due("fields of " + c + ", " + own, own <= 20, true);
        }
    }
}
