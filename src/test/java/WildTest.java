import java.lang.reflect.InvocationTargetException;
import java.lang.reflect.Method;
import java.lang.reflect.Modifier;

/** No call may throw, for any arguments, in any state; what is BAD changes nothing. */
public final class WildTest {
    private static final int[] WILD = {Integer.MIN_VALUE, -1, 0, 1, 3, 6, 61, Integer.MAX_VALUE};
    private static int wrong = 0;

    public static void main(String[] args) throws ReflectiveOperationException {
        for (Method method : BridgeAwake.class.getDeclaredMethods()) {
            if (Modifier.isPublic(method.getModifiers())) {
                tryAll(method, new Object[method.getParameterCount()], 0);
            }
        }
        System.out.println(wrong == 0 ? "all answers are as due" : wrong + " are not as due");
        if (wrong != 0) {
            System.exit(1);
        }
    }

    private static void tryAll(Method method, Object[] arguments, int k) throws ReflectiveOperationException {
        if (k == arguments.length) {
            tryOne(new BridgeAwake(), method, arguments);
            tryOne(withAll(), method, arguments);
            return;
        }
        for (int wild : WILD) {
            arguments[k] = wild;
            tryAll(method, arguments, k + 1);
        }
    }

    private static BridgeAwake withAll() {
        BridgeAwake x = new BridgeAwake();
        String signs = "h209p91w82q01";
        x.text(1, signs.length());
        for (int i = 0; i < signs.length(); i++) {
            x.put(1, i, signs.charAt(i));
        }
        x.bridge(1);
        x.keep(1);
        x.watch(0, 1);
        x.row(0, 3);
        x.row(1, 40);
        x.row(3, 0);
        x.lay(0, 0, 1);
        x.lay(0, 1, 1);
        x.lay(0, 2, 1);
        x.text(3, 60);
        return x;
    }

    private static void tryOne(BridgeAwake x, Method method, Object[] arguments) throws IllegalAccessException {
        long before = x.digest();
        String call = method.getName() + java.util.Arrays.toString(arguments);
        try {
            long answer = ((Number) method.invoke(x, arguments)).longValue();
            boolean refused = answer < 0 && answer >= -6 && !method.getName().equals("digest");
            if (refused && x.digest() != before) {
                wrong++;
                System.out.println(call + " was refused by " + answer + ", but changed something");
            }
        } catch (InvocationTargetException thrown) {
            wrong++;
            System.out.println(call + " threw " + thrown.getCause());
        }
    }
}
