import java.io.PrintWriter;
import java.io.StringWriter;
import java.nio.file.Path;
import java.util.ArrayList;
import java.util.Arrays;
import java.util.HashSet;
import java.util.List;
import java.util.Map;
import java.util.Optional;
import java.util.Set;
import java.util.TreeMap;
import java.util.TreeSet;
import java.util.regex.Matcher;
import java.util.regex.Pattern;
import java.util.spi.ToolProvider;

/** Rules of ../shared/LANGUAGE.md that only the compiled class tells: which calls it makes, and how deep they go. */
public final class CallsTest {
    private static final int DEEPEST = 8;
    /** Of the library's list (rule 4), what a class that makes no texts and no lists has use for. */
    private static final Set<String> LIBRARY = Set.of("Math.max", "Math.min", "Math.abs", "Math.floorDiv",
            "Math.floorMod", "Integer.bitCount", "Integer.compare", "System.arraycopy", "Arrays.fill", "Arrays.copyOf",
            "Arrays.copyOfRange", "Object.<init>");
    private static final Pattern HEAD =
            Pattern.compile("^  (?:[\\w$\\[\\].]+ )*([\\w$]+)\\([^)]*\\)(?: throws [^;]+)?;$");
    private static final Pattern CALL = Pattern.compile("// (?:Interface)?Method (?:([\\w$/]+)\\.)?\"?([\\w<>]+)\"?:");
    private static final Pattern RULED_OUT =
            Pattern.compile("\\b(athrow|checkcast|instanceof|invokedynamic|invokeinterface|monitorenter|Exception table)\\b");

    private static final Map<String, Set<String>> CALLS = new TreeMap<>();
    private static int wrong = 0;

    public static void main(String[] args) throws Exception {
        Optional<ToolProvider> javap = ToolProvider.findFirst("javap");
        if (javap.isEmpty()) {
            System.out.println("not looked at: this machine's java has no javap in it");
            return;
        }
        for (Class<?> one : classes()) {
            read(one.getName(), code(javap.get(), one.getName()));
        }
        rule(CALLS.containsKey("BridgeAwake.digest") && CALLS.size() > 80, "calls can't be read: " + CALLS.keySet());
        library();
        depth();
        System.out.println(wrong == 0 ? "the rules are kept" : wrong + " rules are not kept");
        if (wrong != 0) {
            System.exit(1);
        }
    }

    private static void rule(boolean kept, String what) {
        if (!kept) {
            wrong++;
            System.out.println(what);
        }
    }

    private static List<Class<?>> classes() {
        List<Class<?>> all = new ArrayList<>(Arrays.asList(BridgeAwake.class.getDeclaredClasses()));
        all.add(BridgeAwake.class);
        return all;
    }

    private static String code(ToolProvider javap, String name) throws Exception {
        StringWriter out = new StringWriter();
        Path place = Path.of(BridgeAwake.class.getProtectionDomain().getCodeSource().getLocation().toURI());
        PrintWriter printer = new PrintWriter(out);
        int ended = javap.run(printer, printer, "-p", "-c", "-classpath", place.toString(), name);
        printer.flush();
        rule(ended == 0, "javap ends with " + ended + ": " + out);
        return out.toString();
    }

    private static void read(String className, String code) {
        String method = className + ".?";
        for (String line : code.split("\r?\n")) {
            Matcher head = HEAD.matcher(line);
            if (head.matches()) {
                String name = head.group(1);
                method = className + "." + (name.equals(className) ? "<init>" : name);
                CALLS.computeIfAbsent(method, key -> new TreeSet<>());
                continue;
            }
            rule(!RULED_OUT.matcher(line).find(), method + ": " + line.trim());
            Matcher call = CALL.matcher(line);
            if (call.find()) {
                String owner = call.group(1) == null ? className : call.group(1);
                CALLS.computeIfAbsent(method, key -> new TreeSet<>()).add(owner + "." + call.group(2));
            }
        }
    }

    private static void library() {
        for (Map.Entry<String, Set<String>> entry : CALLS.entrySet()) {
            for (String called : entry.getValue()) {
                String name = called.substring(called.lastIndexOf('/') + 1);
                rule(called.startsWith("BridgeAwake") || LIBRARY.contains(name), entry.getKey() + " calls " + called);
            }
        }
    }

    private static void depth() {
        for (String method : CALLS.keySet()) {
            int deep = deepest(method, new HashSet<>());
            rule(deep <= DEEPEST, method + " goes " + deep + " deep");
        }
    }

    /** The longest chain of unlike methods: one that calls itself counts once. */
    private static int deepest(String method, Set<String> open) {
        int below = 0;
        open.add(method);
        for (String called : CALLS.getOrDefault(method, Set.of())) {
            if (!open.contains(called)) {
                below = Math.max(below, deepest(called, open));
            }
        }
        open.remove(method);
        return below + 1;
    }
}
