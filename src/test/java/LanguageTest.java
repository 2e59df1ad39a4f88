import java.io.IOException;
import java.lang.reflect.Constructor;
import java.lang.reflect.Field;
import java.lang.reflect.Method;
import java.lang.reflect.Modifier;
import java.nio.file.Files;
import java.nio.file.Path;
import java.util.Set;
import java.util.TreeSet;
import java.util.regex.Matcher;
import java.util.regex.Pattern;

/** Some rules of ../shared/LANGUAGE.md: the face, words that it rules out, lengths. */
public final class LanguageTest {
    private static final Path SOURCE = Path.of("src/main/java/BridgeAwake.java");
    private static final String FACE = "asked at bear best bridge coffee copy count digest duel fault finding findings "
            + "keep kinds lasts lay load lots lower mark mean mid odds on one pairs put row sagged sure talk tear test "
            + "text through undo upper watch when";
    private static final String[] RULED_OUT = {"throw", "throws", "try", "catch", "synchronized", "assert", "yield",
        "instanceof", "Object", "Exact", "System.out", "Random", "->", "::", "while (true)", "for (;;)", "float", "double"};
    private static int wrong = 0;

    public static void main(String[] args) throws IOException {
        face();
        words();
        imports();
        lengths();
        nested();
        System.out.println(wrong == 0 ? "the rules are kept" : wrong + " rules are not kept");
        if (wrong != 0) {
            System.exit(1);
        }
    }

    private static void rule(boolean kept, String what) {
        if (!kept) {
            wrong++;
            System.out.println(what);
        }
    }

    private static void face() {
        Set<String> open = new TreeSet<>();
        Set<String> hidden = new TreeSet<>();
        for (Method method : BridgeAwake.class.getDeclaredMethods()) {
            boolean isPrivate = Modifier.isPrivate(method.getModifiers());
            rule(isPrivate || Modifier.isPublic(method.getModifiers()), method + " is neither public nor private");
            (isPrivate ? hidden : open).add(method.getName());
        }
        rule(String.join(" ", open).equals(FACE), "the face is " + open);
        for (String name : hidden) {
            rule(!open.contains(name), name + " is public and private");
        }
        Set<String> constants = new TreeSet<>();
        for (Field field : BridgeAwake.class.getDeclaredFields()) {
            boolean isPrivate = Modifier.isPrivate(field.getModifiers());
            if (!isPrivate) {
                constants.add(field.getName());
            }
            boolean isStatic = Modifier.isStatic(field.getModifiers());
            rule(!isStatic || Modifier.isFinal(field.getModifiers()), field + " is static, not final");
        }
        rule(constants.equals(Set.of("BAD", "FULL", "FINDING", "STATE", "SPENT", "NONE")), "constants " + constants);
        Constructor<?>[] constructors = BridgeAwake.class.getDeclaredConstructors();
        rule(constructors.length == 1 && constructors[0].getParameterCount() == 0, "one constructor");
        rule(Modifier.isFinal(BridgeAwake.class.getModifiers()), "the class is not final");
    }

    private static void nested() {
        Class<?>[] inside = BridgeAwake.class.getDeclaredClasses();
        rule(inside.length < 12, "too many classes");
        for (Class<?> one : inside) {
            rule(Modifier.isStatic(one.getModifiers()), one + " is not static");
            rule(!Modifier.isPublic(one.getModifiers()), one + " is public");
            rule(one.getDeclaredFields().length <= 30, one + " has too many fields");
        }
    }

    private static String code() throws IOException {
        String source = Files.readString(SOURCE);
        return Pattern.compile("/\\*.*?\\*/", Pattern.DOTALL).matcher(source).replaceAll("").replaceAll("//[^\n]*", "");
    }

    private static void words() throws IOException {
        String code = code();
        for (String word : RULED_OUT) {
            String pattern = Character.isLetter(word.charAt(0)) ? "\\b" + Pattern.quote(word) : Pattern.quote(word);
            rule(!Pattern.compile(pattern).matcher(code).find(), word + " is ruled out");
        }
        rule(code.chars().allMatch(sign -> sign < 128), "signs above 127");
    }

    private static void imports() throws IOException {
        Matcher matcher = Pattern.compile("import ([^;]+);").matcher(code());
        while (matcher.find()) {
            rule(matcher.group(1).equals("java.util.Arrays"), "import of " + matcher.group(1));
        }
    }

    /** A method begins at a line that ends with ") {" less deep than its lines, and ends at a brace as deep. */
    private static void lengths() throws IOException {
        String[] lines = Files.readString(SOURCE).split("\n");
        Pattern head = Pattern.compile("( {4}| {8})(public |private |static |final )*[\\w\\[\\]]+ ?\\w*\\((.*)\\) \\{");
        for (int i = 0; i < lines.length; i++) {
            Matcher matcher = head.matcher(lines[i]);
            if (matcher.matches()) {
                int end = i;
                while (!lines[end].equals(matcher.group(1) + "}")) {
                    end++;
                }
                rule(end - i <= 60, "too long: " + lines[i]);
                rule(matcher.group(3).split(",").length <= 7, "too many parameters: " + lines[i]);
            }
        }
    }
}
