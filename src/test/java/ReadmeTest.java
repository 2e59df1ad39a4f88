import java.io.IOException;
import java.lang.reflect.Method;
import java.nio.file.Files;
import java.nio.file.Path;
import java.util.ArrayList;
import java.util.Arrays;
import java.util.List;
import java.util.regex.Matcher;
import java.util.regex.Pattern;
import java.util.stream.Stream;

/** README.md: its example answers as it says there, it names every call once, and every test. */
public final class ReadmeTest {
    private static final Pattern SIGNS = Pattern.compile("String signs = \"([^\"]*)\";");
    private static final Pattern CALL = Pattern.compile("(?m)^x\\.(\\w+)\\(([-\\d, ]*)\\);\\s*// (-?\\d+)\\b");
    private static int wrong = 0;

    public static void main(String[] args) throws Exception {
        String readme = Files.readString(Path.of("README.md"));
        example(readme);
        calls(readme);
        tests(readme);
        System.out.println(wrong == 0 ? "README.md tells what is so" : wrong + " lines of README.md are not so");
        if (wrong != 0) {
            System.exit(1);
        }
    }

    private static void due(boolean so, String what) {
        if (!so) {
            wrong++;
            System.out.println(what);
        }
    }

    private static void example(String readme) throws Exception {
        Matcher signs = SIGNS.matcher(readme);
        if (!signs.find()) {
            due(false, "there is no TEXT in the example");
            return;
        }
        BridgeAwake x = new BridgeAwake();
        String text = signs.group(1);
        x.text(0, text.length());
        for (int i = 0; i < text.length(); i++) {
            x.put(0, i, text.charAt(i));
        }
        Matcher call = CALL.matcher(readme);
        int seen = 0;
        while (call.find()) {
            seen++;
            long told = Long.parseLong(call.group(3));
            long answer = answer(x, call.group(1), numbers(call.group(2)));
            due(answer == told, call.group() + ", but the answer is " + answer);
        }
        due(seen >= 10, "only " + seen + " calls of the example tell an answer");
    }

    private static Object[] numbers(String list) {
        if (list.isBlank()) {
            return new Object[0];
        }
        return Arrays.stream(list.split(",")).map(part -> Integer.valueOf(part.trim())).toArray();
    }

    private static long answer(BridgeAwake x, String name, Object[] numbers) throws Exception {
        for (Method method : BridgeAwake.class.getMethods()) {
            if (method.getName().equals(name) && method.getParameterCount() == numbers.length) {
                return ((Number) method.invoke(x, numbers)).longValue();
            }
        }
        throw new IllegalStateException("no such call: " + name);
    }

    /** The table of calls tells them as the document does: name, and names of what is given. */
    private static void calls(String readme) throws IOException {
        Pattern face = Pattern.compile("public (?:int|long) (\\w+)\\(([^)]*)\\);");
        Matcher method = face.matcher(Files.readString(Path.of("../shared/DOC.md")));
        List<String> missing = new ArrayList<>();
        int seen = 0;
        while (method.find()) {
            seen++;
            String call = "`" + method.group(1) + "(" + method.group(2).replace("int ", "") + ")`";
            if (!readme.contains(call)) {
                missing.add(call);
            }
        }
        due(seen == 40 && missing.isEmpty(), "of " + seen + " calls README.md does not name " + missing);
    }

    private static void tests(String readme) throws IOException {
        try (Stream<Path> files = Files.list(Path.of("src/test/java"))) {
            files.map(file -> file.getFileName().toString().replace(".java", "")).filter(name -> name.endsWith("Test"))
                    .forEach(name -> due(readme.contains("| " + name + " |"), "README.md does not tell of " + name));
        }
    }
}
