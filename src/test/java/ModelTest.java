import java.lang.reflect.InvocationTargetException;
import java.lang.reflect.Method;
import java.util.ArrayList;
import java.util.HashMap;
import java.util.List;
import java.util.Map;
import java.util.Random;

/** Random runs of 512 calls through BridgeAwake and the Model: every answer and every digest must be alike. */
public final class ModelTest {
    private static final int RUNS = 200;
    private static final int CALLS = 512;
    private static final Map<String, Method> METHODS = new HashMap<>();
    private static final Map<String, Integer> WELL = new HashMap<>();
    private static int wrong = 0;

    public static void main(String[] args) throws ReflectiveOperationException {
        for (Method method : BridgeAwake.class.getDeclaredMethods()) {
            if (java.lang.reflect.Modifier.isPublic(method.getModifiers())) {
                METHODS.put(method.getName(), method);
            }
        }
        for (int run = 0; run < RUNS && wrong == 0; run++) {
            new ModelTest(run).go();
        }
        for (String name : METHODS.keySet()) {
            if (WELL.getOrDefault(name, 0) < 20) {
                wrong++;
                System.out.println(name + " was answered well too seldom: " + WELL.get(name));
            }
        }
        System.out.println(wrong == 0 ? "all answers are as due" : wrong + " are not as due");
        if (wrong != 0) {
            System.exit(1);
        }
    }

    private final Random random;
    private final int run;
    private final BridgeAwake x = new BridgeAwake();
    private final Model model = new Model();
    private final List<String> calls = new ArrayList<>();

    private ModelTest(int run) {
        this.run = run;
        this.random = new Random(run);
    }

    private void go() throws ReflectiveOperationException {
        while (calls.size() < CALLS - 70 && wrong == 0) {
            step();
        }
        call("digest");
    }

    private long call(String name, int... args) throws ReflectiveOperationException {
        long want = model.call(name, args);
        Object[] boxed = new Object[args.length];
        StringBuilder told = new StringBuilder(name).append('(');
        for (int k = 0; k < args.length; k++) {
            boxed[k] = args[k];
            told.append(k == 0 ? "" : ", ").append(args[k]);
        }
        calls.add(told.append(')').toString());
        long got;
        try {
            got = ((Number) METHODS.get(name).invoke(x, boxed)).longValue();
        } catch (InvocationTargetException thrown) {
            wrong++;
            System.out.println("run " + run + ": " + calls + " threw " + thrown.getCause());
            return 0;
        }
        if (got != want) {
            wrong++;
            System.out.println("run " + run + ": " + calls + " answered " + got + ", due is " + want);
        }
        if (got >= 0 || got < -9) {
            WELL.merge(name, 1, Integer::sum);
        }
        return got;
    }

    private int below(int n) {
        return random.nextInt(n);
    }

    /** Mostly in 0 .. n - 1, now and then beside it or far away. */
    private int about(int n) {
        int kind = below(40);
        if (kind == 0) {
            return n;
        }
        if (kind == 1) {
            return -1;
        }
        if (kind == 2) {
            int[] far = {Integer.MAX_VALUE, Integer.MIN_VALUE, 100, -100, n + 1};
            return far[below(far.length)];
        }
        return below(n);
    }

    private int someone() {
        return about(Math.max(2, model.people.size()));
    }

    private void step() throws ReflectiveOperationException {
        if (model.people.isEmpty() && below(3) > 0 || below(60) == 0) {
            makeBridge();
            return;
        }
        switch (below(12)) {
            case 0: rowCalls(); break;
            case 1: textCalls(); break;
            case 2: case 3: peopleCalls(); break;
            case 4: case 5: case 6: deedCalls(); break;
            case 7: asideCalls(); break;
            case 8: sagCalls(); break;
            case 9: whoCalls(); break;
            case 10: chanceCalls(); break;
            default: toldCalls(); break;
        }
        if (below(8) == 0) {
            call("digest");
        }
    }

    private void makeBridge() throws ReflectiveOperationException {
        StringBuilder signs = new StringBuilder("h");
        signs.append(below(4)).append(below(10)).append(below(10));
        int people = 2 + below(5);
        for (int i = 0; i < people; i++) {
            signs.append(below(5) == 0 ? " " : "").append("tblcpw".charAt(below(6))).append(below(10)).append(below(4));
            if (i > 0 && below(2) == 0) {
                signs.append('q').append(below(i)).append(i);
            }
        }
        int breaks = below(4);
        if (breaks == 0) {
            signs.setCharAt(below(signs.length()), "htblcpwq0123456789 x".charAt(below(20)));
        } else if (breaks == 1) {
            signs.setLength(below(signs.length() + 1));
        }
        int t = below(4);
        call("text", t, signs.length());
        for (int i = 0; i < signs.length(); i++) {
            if (signs.charAt(i) != ' ') {
                call("put", t, i, signs.charAt(i));
            }
        }
        call("fault", t);
        call("bridge", t);
    }

    private void rowCalls() throws ReflectiveOperationException {
        switch (below(7)) {
            case 0: call("row", about(6), about(41)); break;
            case 1: call("lay", about(6), about(8), random.nextInt()); break;
            case 2: call("at", about(6), about(8)); break;
            case 3: call("tear", about(6)); break;
            case 4: copies(); break;
            case 5: call("mean", about(6)); break;
            default: rowOf(about(6), below(6), 50); break;
        }
    }

    private void copies() throws ReflectiveOperationException {
        for (int k = 0; k < 4; k++) {
            call("copy", about(6), about(5), about(6), about(5), about(5));
        }
    }

    private void rowOf(int r, int n, int most) throws ReflectiveOperationException {
        call("row", r, n);
        for (int i = 0; i < n; i++) {
            call("lay", r, i, about(most));
        }
    }

    private void textCalls() throws ReflectiveOperationException {
        switch (below(4)) {
            case 0: call("text", about(4), about(61)); break;
            case 1: call("put", about(4), about(12), below(3) == 0 ? random.nextInt() : "hq0123 t".charAt(below(8))); break;
            case 2: call("fault", about(4)); break;
            default: call(below(4) == 0 ? "bridge" : "fault", about(4)); break;
        }
    }

    private void peopleCalls() throws ReflectiveOperationException {
        switch (below(4)) {
            case 0: call("one", someone(), about(6)); call("asked"); break;
            case 1: call("mark", someone(), about(6)); break;
            case 2: call("talk", someone(), someone()); break;
            default: markOfOwn(); break;
        }
    }

    private void markOfOwn() throws ReflectiveOperationException {
        if (!model.people.isEmpty()) {
            int i = below(model.people.size());
            int kind = "tblcpw".indexOf(model.people.get(i).letter());
            call("mark", i, kind);
            call("mark", i, kind == 4 ? 1 : kind == 5 ? 2 : kind);
        }
    }

    private void deedCalls() throws ReflectiveOperationException {
        switch (below(10)) {
            case 0: call("load", about(61)); break;
            case 1: call("load", below(12)); break;
            case 2: case 3: call("coffee", someone()); break;
            case 4: call("undo", about(model.now.deeds().size() + 1)); break;
            case 5: call("keep", about(3)); break;
            case 6: call("on", about(3)); break;
            case 7: call("lots", 1 + about(12), 1 + about(Integer.MAX_VALUE - 1)); break;
            default: int i = someone(); int j = someone();
                for (int k = below(5); k >= 0; k--) {
                    call("watch", i, j);
                }
                break;
        }
    }

    private void asideCalls() throws ReflectiveOperationException {
        int r = about(6);
        switch (below(4)) {
            case 0: call("best", below(3) == 0 ? about(4) : below(3), r); break;
            case 1: watchesTo(r); call("through", r); call("asked"); break;
            case 2: watchesTo(r); call("when", r, about(61)); call("when", r, about(20)); break;
            default: rowOf(r, 1 + below(below(4) == 0 ? 4 : 2), 30); call("bear", r); call("asked"); break;
        }
    }

    private void watchesTo(int r) throws ReflectiveOperationException {
        int n = below(12) == 0 ? 20 + below(2) : below(4);
        call("row", r, n);
        for (int k = 0; k < n; k++) {
            int i = below(5);
            int j = i + 1 + below(Math.max(1, Math.max(2, model.people.size()) - i - 1));
            call("lay", r, k, below(15) == 0 ? about(60) : below(3) == 0 ? 1 : 10 * i + j);
        }
    }

    /** STRENGTHS as some WATCHES bring them, so that there are such rows. */
    private void sagCalls() throws ReflectiveOperationException {
        int r = about(6);
        int n = 1 + below(below(4) == 0 ? 3 : 2);
        if (!model.people.isEmpty() && below(5) > 0 && model.now.deeds().size() + n <= 40) {
            int before = model.now.deeds().size();
            call("row", r, n);
            for (int k = 0; k < n; k++) {
                call("lay", r, k, (int) call("watch", someone(), someone()));
            }
            call("undo", before);
        } else {
            rowOf(r, n, 61);
        }
        call("sagged", r);
        call("asked");
        call("upper");
        call("lower");
        call("sure", r);
        call("asked");
    }

    private void whoCalls() throws ReflectiveOperationException {
        int r = about(6);
        int i = someone();
        int n = below(3);
        call("row", r, below(15) == 0 ? 1 + 3 * n : 3 * n);
        for (int k = 0; k < n; k++) {
            int up = about(below(2) == 0 ? 31 : 5);
            call("lay", r, 3 * k, up);
            call("lay", r, 3 * k + 1, about(12));
            call("lay", r, 3 * k + 2, about(below(2) == 0 ? 16 : 5));
        }
        call("lasts", i, r);
        call("kinds", i, r);
        call("test", i, r);
        call("asked");
    }

    private void chanceCalls() throws ReflectiveOperationException {
        switch (below(5)) {
            case 0: call("pairs", about(6)); break;
            case 1: call("duel", below(3) == 0 ? about(4) : below(3)); break;
            case 2: case 3: call("odds", someone(), someone(), below(2) == 0 ? about(61) : below(20), about(13)); break;
            default: call("mid", someone(), someone(), about(13)); break;
        }
        call("upper");
        call("lower");
    }

    private void toldCalls() throws ReflectiveOperationException {
        call("asked");
        call("upper");
        call("lower");
        call("count", about(11));
        call("finding");
        call("findings", 1 + about(5));
    }
}
