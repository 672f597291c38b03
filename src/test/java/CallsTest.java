import java.io.PrintWriter;
import java.io.StringWriter;
import java.nio.file.Path;
import java.util.ArrayList;
import java.util.List;
import java.util.Map;
import java.util.Optional;
import java.util.Set;
import java.util.TreeMap;
import java.util.TreeSet;
import java.util.regex.Matcher;
import java.util.regex.Pattern;
import java.util.spi.ToolProvider;

/** LANGUAGE.md, as far as the compiled class shows it: who calls whom, how deep, what of the library; and that only constructors make objects. */
public final class CallsTest {
    private static final Check CHECK = new Check("CallsTest");
    private static final int DEEPEST = 8;
    private static final Set<String> LIBRARY = Set.of("java/lang/Object.<init>", "java/lang/Math.min", "java/lang/Math.max",
        "java/lang/Integer.bitCount", "java/lang/String.length", "java/lang/String.charAt", "java/util/Arrays.fill",
        "java/lang/System.arraycopy");
    private static final Pattern CALL = Pattern.compile("invoke\\w+ .*// (?:Interface)?Method (?:([\\w$/]+)\\.)?\"?([\\w<>]+)\"?:(\\S+)");
    private static final Pattern MEMBER = Pattern.compile("^  (\\S.*)\\);$");

    /** A method's callees, by class, name and descriptor. */
    private final Map<String, Set<String>> calls = new TreeMap<>();
    private final Map<String, Set<String>> reached = new TreeMap<>();
    private final Set<String> hidden = new TreeSet<>();

    public static void main(String[] args) throws Exception {
        Optional<ToolProvider> javap = ToolProvider.findFirst("javap");
        if (javap.isEmpty()) {
            System.out.println("CallsTest: this Java has no javap; nothing was looked at");
            return;
        }
        CallsTest test = new CallsTest();
        for (String name : classNames()) {
            test.read(name, listing(javap.get(), name));
        }
        test.library();
        test.recursion();
        test.depth();
        CHECK.end();
    }

    private static List<String> classNames() {
        List<String> names = new ArrayList<>(List.of("StraitGame"));
        for (Class<?> c : StraitGame.class.getDeclaredClasses()) {
            names.add(c.getName());
        }
        return names;
    }

    private static String listing(ToolProvider javap, String name) throws Exception {
        Path classes = Path.of(StraitGame.class.getProtectionDomain().getCodeSource().getLocation().toURI());
        StringWriter out = new StringWriter();
        int code = javap.run(new PrintWriter(out), new PrintWriter(System.err), "-c", "-p", "-s", "-cp", classes.toString(), name);
        CHECK.due("javap of " + name, code, 0);
        return out.toString();
    }

    private void read(String className, String listing) {
        String head = "";
        String method = null;
        for (String line : listing.split("\n")) {
            Matcher member = MEMBER.matcher(line);
            if (member.find()) {
                head = member.group(1);
                method = null;
            } else if (line.startsWith("    descriptor: (")) {
                String name = head.replaceAll("\\(.*", "").replaceAll(".* ", "");
                method = className + "." + (name.equals(className) ? "<init>" : name) + ":" + line.substring(16);
                calls.put(method, new TreeSet<>());
                if (head.startsWith("private ")) {
                    hidden.add(method);
                }
            } else if (method != null) {
                instruction(className, method, line);
            }
        }
    }

    private void instruction(String className, String method, String line) {
        String opcode = line.replaceAll("^ *\\d+: (\\w+).*", "$1");
        if (opcode.matches("new|newarray|anewarray|multianewarray")) {
            CHECK.due(method + " makes something", method.contains(".<init>:"), true);
        }
        CHECK.due(method + " has " + opcode, opcode.matches("athrow|monitorenter|monitorexit|invokedynamic|checkcast"), false);
        Matcher call = CALL.matcher(line);
        if (call.find()) {
            String owner = call.group(1) == null ? className : call.group(1);
            calls.get(method).add(owner + "." + call.group(2) + ":" + call.group(3));
        } else {
            CHECK.due(method + ": a call that can't be read: " + line, opcode.startsWith("invoke"), false);
        }
    }

    private void library() {
        for (Map.Entry<String, Set<String>> of : calls.entrySet()) {
            for (String callee : of.getValue()) {
                String name = callee.replaceAll(":.*", "");
                CHECK.due(of.getKey() + " calls " + callee, calls.containsKey(callee) || LIBRARY.contains(name), true);
            }
        }
    }

    private Set<String> reachedFrom(String method) {
        Set<String> known = reached.get(method);
        if (known != null) {
            return known;
        }
        Set<String> all = new TreeSet<>();
        List<String> open = new ArrayList<>(calls.getOrDefault(method, Set.of()));
        while (!open.isEmpty()) {
            String next = open.remove(open.size() - 1);
            if (all.add(next)) {
                open.addAll(calls.getOrDefault(next, Set.of()));
            }
        }
        reached.put(method, all);
        return all;
    }

    private void recursion() {
        for (String method : calls.keySet()) {
            if (reachedFrom(method).contains(method)) {
                CHECK.due(method + " comes to itself and is private", hidden.contains(method), true);
            }
        }
    }

    private void depth() {
        for (String method : calls.keySet()) {
            CHECK.due("calls from " + method + ": " + deepest(method, List.of()), deepest(method, List.of()).size() <= DEEPEST, true);
        }
    }

    /** The longest row of calls from a method on, each method once: a recursion's way back is none. */
    private List<String> deepest(String method, List<String> above) {
        List<String> row = new ArrayList<>(above);
        row.add(method);
        List<String> best = row;
        for (String callee : calls.getOrDefault(method, Set.of())) {
            if (!row.contains(callee)) {
                List<String> longer = deepest(callee, row);
                best = longer.size() > best.size() ? longer : best;
            }
        }
        return best;
    }
}
