/** Promises 8 to 11: text, put, fault, bridge. */
public final class TextsTest {
    private static final int BAD = -1, STATE = -4, NONE = -9, NOTHING = 1, BEYOND = 2, SIZE = 5;

    public static void main(String[] args) {
        texts();
        puts();
        faultless();
        faults();
        faultRefused();
        bridges();
        bridgeAnew();
        Due.end();
    }

    private static void texts() {
        BridgeAwake x = new BridgeAwake();
        Due.due("text(0, 60)", x.text(0, 60), 60);
        Due.due("put(0, 59, 104)", x.put(0, 59, 104), 1032);
        Due.due("text(3, 0)", x.text(3, 0), 0);
        Due.due("count(9)", x.count(9), 2);
        Due.due("text(0, 61)", x.text(0, 61), BAD);
        Due.due("text(4, 1)", x.text(4, 1), BAD);
        Due.due("text(-1, 1)", x.text(-1, 1), BAD);
        Due.due("text(4, -1)", x.text(4, -1), BAD);
        Due.finds(x, "text(0, -1)", x.text(0, -1), SIZE);
        Due.due("put(0, 59, 1) into what stayed", x.put(0, 59, 1), 1104);
        Due.due("text(0, 60) anew", x.text(0, 60), 60);
        Due.due("put(0, 59, 1) into a blank", x.put(0, 59, 1), 1032);
    }

    private static void puts() {
        BridgeAwake x = new BridgeAwake();
        Due.finds(x, "put(0, 0, 1)", x.put(0, 0, 1), NOTHING);
        x.text(0, 2);
        Due.due("put 127", x.put(0, 0, 127), 1032);
        Due.due("put 128", x.put(0, 0, 128), 1127);
        Due.due("put -129", x.put(0, 0, -129), 872);
        Due.due("put 256 + 104", x.put(0, 0, 256 + 104), 1127);
        Due.due("put -1", x.put(0, 0, -1), 1104);
        Due.due("put 0", x.put(0, 0, 0), 999);
        Due.due("put 5", x.put(0, 0, 5), 1000);
        Due.finds(x, "put(0, 2, 1)", x.put(0, 2, 1), BEYOND);
        Due.finds(x, "put(0, -1, 1)", x.put(0, -1, 1), BEYOND);
        Due.due("put(4, 0, 1)", x.put(4, 0, 1), BAD);
        Due.due("put(-1, 0, 1)", x.put(-1, 0, 1), BAD);
        Due.due("asked() stays", x.asked(), 0);
    }

    private static void fault(String signs, int want) {
        BridgeAwake x = new BridgeAwake();
        Due.textOf(x, 2, signs);
        Due.due("fault of '" + signs + "'", x.fault(2), want);
    }

    private static void faultless() {
        fault("h000t00t00", NONE);
        fault("h409t12b34", NONE);
        fault("  h409   t12b34l56  c78p90 w99  q01q10 q54   ", NONE);
        fault("h409t12q01b34".replace("q01", "l00"), NONE);
        fault("h109t12b34q01q01c11q20", NONE);
        fault("h409t12b34t12b34t12b34q05", NONE);
    }

    private static void faults() {
        fault("", 0);
        fault("     ", 5);
        fault("x", 0);
        fault("  H409t12t12", 2);
        fault("t12h409b34", 0);
        fault("h", 1);
        fault("h ", 1);
        fault("h4", 2);
        fault("h4 ", 2);
        fault("h41", 1);
        fault("h419t12t12", 1);
        fault(" h99", 2);
        fault("h5", 2);
        fault("h5x", 2);
        fault("h40", 3);
        fault("h40x", 3);
        fault("h409", 4);
        fault("h409  ", 6);
        fault("h409t12", 7);
        fault("h409t12   ", 10);
        fault("h409h409", 4);
        fault("h409t", 5);
        fault("h409t ", 5);
        fault("h409tx", 5);
        fault("h409t1", 6);
        fault("h409t1 2", 6);
        fault("h409T12", 4);
        fault("h409q", 5);
        fault("h409q0", 5);
        fault("h409t12q", 8);
        fault("h409t12q0", 9);
        fault("h409t12q00", 9);
        fault("h409t12q01b34", 9);
        fault("h409t12b34q 1", 11);
        fault("h409t12b34q21", 11);
        fault("h409t12b34q02", 12);
        fault("h409t12b34q11", 12);
        fault("h409t12b34q0", 12);
        fault("h409t12b34q0 1", 12);
        fault("h409t12b34q01x", 13);
        fault("h409t12t12t12t12t12t12t12", 22);
        fault("h409t12t12t12t12t12t12 t", 23);
    }

    private static void faultRefused() {
        BridgeAwake x = new BridgeAwake();
        Due.due("fault(4)", x.fault(4), BAD);
        Due.due("fault(-1)", x.fault(-1), BAD);
        Due.finds(x, "fault(0)", x.fault(0), NOTHING);
        x.text(0, 1);
        x.put(0, 0, 104 - 256);
        Due.due("a byte is its own again when cut", x.fault(0), 1);
        x.put(0, 0, -104);
        Due.due("a byte below 0 is no sign", x.fault(0), 0);
    }

    private static void bridges() {
        BridgeAwake x = new BridgeAwake();
        Due.due("bridge(4)", x.bridge(4), BAD);
        Due.due("bridge(-1)", x.bridge(-1), BAD);
        Due.finds(x, "bridge(0)", x.bridge(0), NOTHING);
        Due.textOf(x, 0, "h375 t12 b34 l56 c78 p90 w99 q13");
        Due.due("bridge(0)", x.bridge(0), 6);
        Due.due("count(3)", x.count(3), 37);
        Due.due("count(4)", x.count(4), 5);
        int[][] facts = {{0, 1, 2, 0}, {1, 3, 4, 8}, {2, 5, 6, 0}, {3, 7, 8, 2}, {4, 9, 0, 0}, {5, 9, 9, 0}};
        for (int i = 0; i < 6; i++) {
            Due.told(x, "kind", x.one(i, 0), facts[i][0]);
            Due.told(x, "lively", x.one(i, 1), facts[i][1]);
            Due.told(x, "lasts", x.one(i, 2), facts[i][2]);
            Due.told(x, "quarrels", x.one(i, 5), facts[i][3]);
        }
        int findings = x.findings(NOTHING);
        Due.textOf(x, 1, "h205t11");
        Due.due("bridge by a FAULT", x.bridge(1), STATE);
        Due.due("PEOPLE stay", x.count(0), 6);
        Due.due("STRENGTH stays", x.count(3), 37);
        Due.told(x, "quarrels stay", x.one(1, 5), 8);
        Due.due("findings stay", x.findings(NOTHING), findings);
    }

    private static void bridgeAnew() {
        BridgeAwake x = Due.bridgeOf("h109t99t99q01", 2);
        x.watch(0, 1);
        x.load(60);
        x.load(0);
        x.coffee(0);
        x.keep(0);
        x.keep(2);
        Due.due("kept", x.count(10), 2);
        Due.textOf(x, 1, "h205l33b44c55");
        Due.due("bridge(1)", x.bridge(1), 3);
        int[] counts = {3, 0, 0, 20, 5, 0, 0, 1, 0, 2, 0};
        for (int what = 0; what < counts.length; what++) {
            Due.due("count(" + what + ") anew", x.count(what), counts[what]);
        }
        Due.told(x, "nobody was UP", x.one(1, 3), 0);
        Due.told(x, "quarrels go", x.one(0, 5), 0);
        Due.finds(x, "on(0)", x.on(0), NOTHING);
        Due.due("undo(1)", x.undo(1), BAD);
    }
}
