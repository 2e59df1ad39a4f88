import java.io.IOException;
import java.nio.file.Files;
import java.nio.file.Path;
import java.util.BitSet;
import java.util.LinkedHashMap;
import java.util.Map;
import java.util.function.IntSupplier;

/**
 * Tests of single sentences of ../shared/DOC.md: each has a new object, its message tells the promise's number and
 * the sentence. A sentence must stand in the document as it is quoted; at the end those that no test quotes are told.
 */
abstract class Bounds {
    static final int BAD = -1, FULL = -2, FINDING = -3, STATE = -4, SPENT = -6, NONE = -9;
    static final int NOTHING = 1, BEYOND = 2, UNLIKE = 3, NOUGHT = 4, SIZE = 5;
    static final int MIN = Integer.MIN_VALUE, MAX = Integer.MAX_VALUE;

    private static final Map<String, String> DOCUMENT = new LinkedHashMap<>();
    private static final Map<String, BitSet> QUOTED = new LinkedHashMap<>();
    private static int wrong = 0;
    private static int sentences = 0;
    private static int dues = 0;
    private static String now = "";

    /** What a sentence asks, tried on a new object. */
    interface Trial {
        void on(BridgeAwake x);
    }

    // ---- sentences

    static void of(int promise, String sentence, Trial trial) {
        quote("Promise " + promise, sentence);
        run("Promise " + promise, sentence, trial);
    }

    /** A sentence of 'Terms', with the numbers of the promises by which it is seen. */
    static void terms(String promises, String sentence, Trial trial) {
        quote("Terms", sentence);
        run("Promise " + promises + " (Terms)", sentence, trial);
    }

    /** A sentence of 'What it is'. */
    static void intro(String promises, String sentence, Trial trial) {
        quote("What it is", sentence);
        run("Promise " + promises + " (What it is)", sentence, trial);
    }

    /** Words of the document that name no bound. */
    static void noBound(String section, String words) {
        quote(section, words);
    }

    private static void run(String promise, String sentence, Trial trial) {
        now = promise + ", \"" + sentence + "\"";
        sentences++;
        int before = dues;
        try {
            trial.on(new BridgeAwake());
        } catch (RuntimeException thrown) {
            fail("threw " + thrown);
        }
        if (dues == before) {
            fail("nothing was tested");
        }
    }

    private static void quote(String section, String words) {
        String text = document().get(section);
        int from = text == null ? -1 : text.indexOf(words);
        if (from < 0) {
            wrong++;
            System.out.println("not in the document, " + section + ": \"" + words + "\"");
            return;
        }
        QUOTED.computeIfAbsent(section, none -> new BitSet()).set(from, from + words.length());
    }

    static void end() {
        document().forEach(Bounds::tellUnquoted);
        System.out.println(sentences + " sentences, " + dues + " answers, " + wrong + " not as due");
        if (wrong != 0) {
            System.exit(1);
        }
    }

    private static void tellUnquoted(String section, String text) {
        BitSet quoted = QUOTED.getOrDefault(section, new BitSet());
        for (int from = quoted.nextClearBit(0); from < text.length();) {
            int to = quoted.nextSetBit(from);
            to = to < 0 ? text.length() : to;
            String left = text.substring(from, to).strip();
            if (!left.isEmpty()) {
                wrong++;
                System.out.println("no test of " + section + ": \"" + left + "\"");
            }
            from = quoted.nextClearBit(to);
        }
    }

    // ---- the document

    /** 'What it is' behind its story, 'Terms', 'Promise 1' .. 'Promise 41': each in one line, without heads of calls. */
    private static Map<String, String> document() {
        if (DOCUMENT.isEmpty()) {
            try {
                readDocument(Files.readString(Path.of("../shared/DOC.md")));
            } catch (IOException thrown) {
                throw new IllegalStateException("../shared/DOC.md can't be read", thrown);
            }
        }
        return DOCUMENT;
    }

    private static void readDocument(String all) {
        for (String section : all.split("\n## ")) {
            String head = section.split("\n", 2)[0].split(":")[0].strip();
            if (!head.equals("What it is") && !head.equals("Terms") && !head.startsWith("Promise ")) {
                continue;
            }
            String text = section.substring(section.indexOf('\n') + 1)
                    .replaceAll("(?m)^```.*$", " ")
                    .replaceAll("(?m)^Ahead of the calls .* the interface says: ---- ", " ")
                    .replaceAll("(?m)^`[^`]*`: ", " ")
                    .replaceAll("(?m)^Two may hold the bridge awake: .*$", " ");
            DOCUMENT.put(head, text.replaceAll("\\s+", " ").strip());
        }
    }

    // ---- answers

    static void due(long got, long want) {
        dues++;
        if (got != want) {
            fail("answered " + got + ", due is " + want);
        }
    }

    private static void fail(String what) {
        wrong++;
        System.out.println(now + ": " + what + StackWalker.getInstance().walk(frames -> frames
                .filter(frame -> !frame.getClassName().equals("Bounds") && !frame.getClassName().startsWith("java."))
                .findFirst().map(frame -> " (" + frame.getFileName() + ":" + frame.getLineNumber() + ")").orElse("")));
    }

    static void told(BridgeAwake x, long got, long want) {
        due(got, 1);
        due(x.asked(), want);
    }

    static void share(BridgeAwake x, long got, long upper, long lower) {
        due(got, 1);
        due(x.upper(), upper);
        due(x.lower(), lower);
    }

    /** The call is refused by an answer other than FINDING, and changes nothing at all. */
    static void refused(BridgeAwake x, int answer, IntSupplier call) {
        long[] before = all(x);
        due(call.getAsInt(), answer);
        same(x, before);
    }

    /** The call is refused by a FINDING, and changes nothing but finding(), findings(). */
    static void finds(BridgeAwake x, int finding, IntSupplier call) {
        long[] before = all(x);
        due(call.getAsInt(), FINDING);
        before[4] = finding;
        before[4 + finding]++;
        same(x, before);
    }

    /** The call answers so and changes nothing. */
    static void aside(BridgeAwake x, int answer, IntSupplier call) {
        refused(x, answer, call);
    }

    private static long[] all(BridgeAwake x) {
        long[] all = new long[10];
        all[0] = x.digest();
        all[1] = x.asked();
        all[2] = x.upper();
        all[3] = x.lower();
        all[4] = x.finding();
        for (int f = NOTHING; f <= SIZE; f++) {
            all[4 + f] = x.findings(f);
        }
        return all;
    }

    private static void same(BridgeAwake x, long[] want) {
        long[] got = all(x);
        for (int k = 0; k < want.length; k++) {
            due(got[k], want[k]);
        }
    }

    // ---- ROWS, TEXTS, BRIDGES

    static void rowOf(BridgeAwake x, int r, int... places) {
        due(x.row(r, places.length), places.length);
        for (int i = 0; i < places.length; i++) {
            due(x.lay(r, i, places[i]), 1);
        }
    }

    /** Looks behind the last place too, so that the size shows. */
    static void isRow(BridgeAwake x, int r, int... places) {
        for (int i = 0; i < places.length; i++) {
            told(x, x.at(r, i), places[i]);
        }
        due(x.at(r, places.length), FINDING);
        due(x.finding(), BEYOND);
    }

    static void textOf(BridgeAwake x, int t, String signs) {
        due(x.text(t, signs.length()), signs.length());
        for (int i = 0; i < signs.length(); i++) {
            due(x.put(t, i, signs.charAt(i)), 1032);
        }
    }

    static int faultOf(String signs) {
        BridgeAwake x = new BridgeAwake();
        textOf(x, 0, signs);
        return x.fault(0);
    }

    static void bridgeOf(BridgeAwake x, String signs, int people) {
        textOf(x, 0, signs);
        due(x.bridge(0), people);
    }

    static BridgeAwake ready(String signs, int people) {
        BridgeAwake x = new BridgeAwake();
        bridgeOf(x, signs, people);
        return x;
    }

    static void watches(BridgeAwake x, int n, int i, int j) {
        for (int k = 0; k < n; k++) {
            x.watch(i, j);
        }
    }

    /** DEEDS that change nothing but how many there are. */
    static void loads(BridgeAwake x, int n) {
        for (int k = 0; k < n; k++) {
            due(x.load(0), 1);
        }
    }
}
