/** Promises 21 to 24: best, through, when, bear. */
public final class WatchesTest {
    private static final int BAD = -1, STATE = -4, NONE = -9, NOTHING = 1, UNLIKE = 3, SIZE = 5;

    public static void main(String[] args) {
        bests();
        bestRefused();
        throughs();
        whens();
        watchRowsRefused();
        bears();
        bearRefused();
        Due.end();
    }

    private static void bests() {
        BridgeAwake x = Due.bridgeOf("h100 t50 t50 t40 t40", 4);
        long ahead = x.digest();
        Due.due("best(0)", x.best(0, 1), 10);
        Due.isRow(x, 1);
        Due.due("best(1)", x.best(1, 1), 15);
        Due.isRow(x, 1, 1);
        // 5 + 5 + 4 = 14, 7 + 5 + 4 = 16; by the stronger PAIR first 5 + 5 + 5 = 15, 7 + 4 + 4 = 15
        Due.due("best(2)", x.best(2, 1), 16);
        Due.isRow(x, 1, 2, 13);
        // 15, 15, 7 + 5 + 5 = 17, as good as 14, 16, 8 + 5 + 4 = 17
        Due.due("best(3)", x.best(3, 1), 17);
        Due.isRow(x, 1, 1, 23, 1);
        x.tear(1);
        Due.due("nothing else is changed", x.digest(), ahead);
        x.load(60);
        Due.due("best(1) behind a FALL", x.best(1, 1), 10);
        Due.isRow(x, 1, 1);
        x = Due.bridgeOf("h400t00t00t00", 3);
        Due.due("the first of like ones", x.best(3, 5), 5);
        Due.isRow(x, 5, 1, 1, 1);
    }

    private static void bestRefused() {
        BridgeAwake x = new BridgeAwake();
        Due.due("best without PEOPLE", x.best(1, 0), STATE);
        Due.due("best(4)", x.best(4, 0), BAD);
        Due.due("best(-1)", x.best(-1, 0), BAD);
        Due.due("best(.., 6)", x.best(1, 6), BAD);
        Due.due("best(.., -1)", x.best(1, -1), BAD);
        Due.due("no ROW", x.count(8), 0);
    }

    private static void throughs() {
        BridgeAwake x = Due.bridgeOf("h400 t31 t31 t90", 3);
        Due.rowOf(x, 0, 1, 12, 2);
        long ahead = x.digest();
        // 20 + 6 = 26; 13 + 3 + 9 = 25; 12 + 3 + 7 = 22
        Due.due("through", x.through(0), 12 + 3 + 7);
        Due.due("least", x.asked(), 22);
        Due.due("aside", x.digest(), ahead);
        Due.rowOf(x, 0);
        Due.due("through none", x.through(0), 40);
        Due.due("least is now", x.asked(), 40);
        Due.rowOf(x, 0, 1, 1, 1, 1, 12);
        Due.due("through", x.through(0), 11);
        // 26; 13 + 6 = 19; 9 + 2 = 11; 5 + 0 = 5; 2 + 0 + 9 = 11
        Due.due("least behind one between", x.asked(), 5);
        x = Due.bridgeOf("h000t99t99", 2);
        Due.rowOf(x, 0, 1);
        Due.due("through", x.through(0), 18);
        Due.due("least is now", x.asked(), 0);
        Due.due("row of 20", x.row(3, 20), 20);
        for (int k = 0; k < 20; k++) {
            x.lay(3, k, 1);
        }
        Due.due("through 20", x.through(3) >= 0 ? 1 : 0, 1);
    }

    private static void whens() {
        BridgeAwake x = Due.bridgeOf("h100 t99 t99 b10", 3);
        Due.rowOf(x, 0, 2, 1, 1);
        // 10; 5 + 9 = 14; 7 + 18 = 25; 12 + 18 = 30
        long ahead = x.digest();
        int asked = x.asked();
        Due.due("when(10)", x.when(0, 10), 0);
        Due.due("when(11)", x.when(0, 11), 1);
        Due.due("when(15)", x.when(0, 15), 2);
        Due.due("when(25)", x.when(0, 25), 2);
        Due.due("when(30)", x.when(0, 30), 3);
        Due.due("when(31)", x.when(0, 31), NONE);
        Due.due("aside", x.digest(), ahead);
        Due.due("asked() stays", x.asked(), asked);
        Due.rowOf(x, 0, 12, 2);
        // 5 + 9 + 0 = 14; 7 + 9 + 0 = 16
        Due.due("when(14)", x.when(0, 14), 1);
        Due.due("when(16)", x.when(0, 16), 2);
        Due.due("when(17)", x.when(0, 17), NONE);
        Due.rowOf(x, 0);
        Due.due("when(10) by none", x.when(0, 10), 0);
        Due.due("when(11) by none", x.when(0, 11), NONE);
        Due.due("when(61)", x.when(0, 61), BAD);
        Due.due("when(-1)", x.when(0, -1), BAD);
    }

    private static void watchRowsRefused() {
        BridgeAwake x = new BridgeAwake();
        Due.due("through without PEOPLE", x.through(0), STATE);
        Due.due("through(6)", x.through(6), BAD);
        Due.due("through(-1)", x.through(-1), BAD);
        Due.due("when without PEOPLE", x.when(0, 0), STATE);
        Due.due("when(6, 0)", x.when(6, 0), BAD);
        Due.due("when(-1, 0)", x.when(-1, 0), BAD);
        x = Due.bridgeOf("h100t99t99b10", 3);
        Due.finds(x, "through a missing one", x.through(0), NOTHING);
        Due.finds(x, "when by a missing one", x.when(0, 0), NOTHING);
        x.row(0, 21);
        Due.finds(x, "through 21", x.through(0), SIZE);
        Due.finds(x, "when by 21", x.when(0, 0), SIZE);
        int[] none = {0, 11, 10, 21, 3, 13, 23, -1, -12, 100, 101, Integer.MIN_VALUE, Integer.MAX_VALUE};
        for (int number : none) {
            Due.rowOf(x, 0, number, 12);
            Due.finds(x, "through " + number + " first", x.through(0), UNLIKE);
            Due.finds(x, "when by " + number + " first", x.when(0, 0), UNLIKE);
            Due.rowOf(x, 0, 12, number);
            Due.finds(x, "through " + number, x.through(0), UNLIKE);
            Due.finds(x, "when by " + number, x.when(0, 0), UNLIKE);
        }
        Due.rowOf(x, 0, 1, 2, 12);
        Due.due("all PAIRS", x.through(0) >= 0 ? 1 : 0, 1);
    }

    private static void bears() {
        BridgeAwake x = Due.bridgeOf("h100 t40 t60 t60 t50", 4);
        long ahead = x.digest();
        Due.rowOf(x, 0, 15);
        Due.due("bear 15", x.bear(0), 2);
        Due.due("who: the least number", x.asked(), 3);
        Due.rowOf(x, 0, 16);
        Due.due("bear 16", x.bear(0), 2);
        Due.due("who", x.asked(), 6);
        Due.rowOf(x, 0, 17, 17);
        // 5 + 6 + 6 by 1 and 2 alone, then 8 + 5 + 4 by 3 and one of both, tired, or by 3 and 0
        Due.due("bear 17, 17", x.bear(0), 3);
        Due.due("who", x.asked(), 14);
        Due.rowOf(x, 0, 18);
        Due.due("none bears 18", x.bear(0), NONE);
        Due.due("asked() stays", x.asked(), 0);
        x.tear(0);
        Due.due("aside", x.digest(), ahead);
        Due.rowOf(x, 0, 17, 16, 17);
        Due.due("bear three", x.bear(0), 3);
        Due.rowOf(x, 0, 0, 0, 0);
        Due.due("bear nothing", x.bear(0), 2);
        Due.due("who", x.asked(), 3);
        x = Due.bridgeOf("h000 t59 t49 t69 t59 q02", 4);
        // 01: 9, 02: 8, 03: 10, 12: 10, 13: 9, 23: 11: the first row is not the least number
        Due.rowOf(x, 0, 10);
        Due.due("bear 10", x.bear(0), 2);
        Due.due("who: 1 and 2, not 0 and 3", x.asked(), 6);
    }

    private static void bearRefused() {
        BridgeAwake x = new BridgeAwake();
        Due.due("bear without PEOPLE", x.bear(0), STATE);
        Due.due("bear(6)", x.bear(6), BAD);
        Due.due("bear(-1)", x.bear(-1), BAD);
        x = Due.bridgeOf("h100t99t99", 2);
        Due.finds(x, "bear of a missing one", x.bear(0), NOTHING);
        x.row(0, 0);
        Due.finds(x, "bear of none", x.bear(0), SIZE);
        Due.rowOf(x, 0, 0, 0, 0, 61);
        Due.finds(x, "bear of 4", x.bear(0), SIZE);
        Due.rowOf(x, 0, 0, 61);
        Due.finds(x, "bear 61", x.bear(0), UNLIKE);
        Due.rowOf(x, 0, -1);
        Due.finds(x, "bear -1", x.bear(0), UNLIKE);
        Due.rowOf(x, 0, 60);
        Due.due("bear 60", x.bear(0), NONE);
    }
}
