/** Promises 15 to 20: watch, load, coffee, undo, keep, on. */
public final class DeedsTest {
    private static final int BAD = -1, FULL = -2, STATE = -4, SPENT = -6, NOTHING = 1;

    public static void main(String[] args) {
        watches();
        watchRefused();
        loads();
        coffees();
        fullLast();
        undoing();
        undoRefused();
        keeping();
        keepRefused();
        Due.end();
    }

    private static void watches() {
        BridgeAwake x = Due.bridgeOf("h215 t52 l42 t31 q02", 3);
        Due.due("watch(0, 1)", x.watch(0, 1), 10 + 5 + 6);
        Due.due("HOURS", x.count(1), 1);
        Due.due("DEEDS", x.count(2), 1);
        Due.due("STRENGTH", x.count(3), 21);
        Due.told(x, "UP", x.one(0, 3), 1);
        Due.told(x, "not UP", x.one(2, 3), 0);
        Due.due("watch(2, 0), who QUARREL", x.watch(2, 0), 10 + 3 + 5 - 3);
        Due.told(x, "UP 2 less", x.one(1, 3), 0);
        Due.told(x, "UP an hour more", x.one(0, 3), 2);
        Due.due("watch(0, 1)", x.watch(0, 1), 7 + 5 + 6);
        Due.due("watch(0, 1), less lively", x.watch(0, 1), 9 + 3 + 6);
        x = Due.bridgeOf("h400c99c99", 2);
        Due.due("44", x.watch(0, 1), 44);
        Due.due("46", x.watch(0, 1), 46);
        x = Due.bridgeOf("h400w99w99", 2);
        x.watch(0, 1);
        Due.due("never above 60", x.watch(1, 0), 43);
    }

    private static void watchRefused() {
        BridgeAwake x = new BridgeAwake();
        Due.due("watch of nobody", x.watch(0, 1), BAD);
        x = Due.bridgeOf("h000t11t11", 2);
        Due.due("alike", x.watch(1, 1), BAD);
        Due.due("watch(0, 2)", x.watch(0, 2), BAD);
        Due.due("watch(2, 0)", x.watch(2, 0), BAD);
        Due.due("watch(-1, 0)", x.watch(-1, 0), BAD);
        Due.due("watch(0, -1)", x.watch(0, -1), BAD);
        Due.due("no DEED", x.count(2), 0);
    }

    private static void loads() {
        BridgeAwake x = new BridgeAwake();
        Due.due("load(61) without PEOPLE", x.load(61), BAD);
        Due.due("load without PEOPLE", x.load(0), STATE);
        x = Due.bridgeOf("h250t11t11", 2);
        Due.due("as much crosses", x.load(25), 1);
        Due.due("STRENGTH stays", x.count(3), 25);
        Due.due("more FALLS", x.load(26), 0);
        Due.due("STRENGTH is 0", x.count(3), 0);
        Due.due("0 crosses", x.load(0), 1);
        Due.due("60 FALLS", x.load(60), 0);
        Due.due("61", x.load(61), BAD);
        Due.due("-1", x.load(-1), BAD);
        Due.due("crossed", x.count(5), 2);
        Due.due("FELL", x.count(6), 2);
        Due.due("DEEDS", x.count(2), 4);
        Due.due("no HOURS", x.count(1), 0);
    }

    private static void coffees() {
        BridgeAwake x = new BridgeAwake();
        Due.due("coffee of nobody", x.coffee(0), BAD);
        x = Due.bridgeOf("h002t90t90t99", 3);
        Due.due("was not UP", x.coffee(0), STATE);
        Due.due("coffee(3)", x.coffee(3), BAD);
        Due.due("coffee(-1)", x.coffee(-1), BAD);
        x.watch(0, 1);
        x.watch(0, 1);
        Due.told(x, "TELLS less", x.one(0, 4), 5);
        Due.due("one left", x.coffee(0), 1);
        Due.told(x, "not UP", x.one(0, 3), 0);
        Due.told(x, "TELLS more", x.one(0, 4), 9);
        Due.told(x, "the other is UP", x.one(1, 3), 2);
        Due.due("was not UP any more", x.coffee(0), STATE);
        Due.due("none left", x.coffee(1), 0);
        x.watch(0, 1);
        Due.due("none left", x.coffee(0), SPENT);
        Due.due("STATE ahead of SPENT", x.coffee(2), STATE);
        Due.due("COFFEE", x.count(4), 0);
        Due.due("DEEDS", x.count(2), 5);
    }

    private static void fullLast() {
        BridgeAwake x = Due.bridgeOf("h001t11t11t11", 3);
        for (int k = 0; k < 38; k++) {
            Due.due("load(0)", x.load(0), 1);
        }
        Due.due("lots(3, 1) would be more than 40", x.lots(3, 1), FULL);
        x.watch(0, 1);
        x.watch(0, 1);
        long digest = x.digest();
        Due.due("watch", x.watch(0, 1), FULL);
        Due.due("watch, alike", x.watch(0, 0), BAD);
        Due.due("load", x.load(1), FULL);
        Due.due("load(61)", x.load(61), BAD);
        Due.due("coffee", x.coffee(0), FULL);
        Due.due("coffee, not UP", x.coffee(2), STATE);
        Due.due("lots", x.lots(1, 1), FULL);
        Due.due("nothing is changed", x.digest(), digest);
        Due.due("undo(39)", x.undo(39), 1);
        Due.due("coffee", x.coffee(0), 0);
        Due.due("coffee, none", x.coffee(1), SPENT);
        Due.due("best is aside", x.best(1, 0) >= 0 ? 1 : 0, 1);
    }

    private static void undoing() {
        BridgeAwake x = Due.bridgeOf("h319 l51 c40 p73 q12", 3);
        long[] digests = new long[9];
        digests[0] = x.digest();
        x.watch(0, 1);
        digests[1] = x.digest();
        x.watch(0, 2);
        digests[2] = x.digest();
        x.coffee(0);
        digests[3] = x.digest();
        x.load(5);
        digests[4] = x.digest();
        x.load(60);
        digests[5] = x.digest();
        x.watch(1, 2);
        digests[6] = x.digest();
        x.watch(1, 2);
        digests[7] = x.digest();
        x.coffee(1);
        digests[8] = x.digest();
        Due.due("undo(8) of 8", x.undo(8), 0);
        Due.due("as it was", x.digest(), digests[8]);
        Due.due("undo(6) of 8", x.undo(6), 2);
        Due.due("as it was behind 6", x.digest(), digests[6]);
        for (int n = 5; n >= 0; n--) {
            Due.due("undo(" + n + ")", x.undo(n), 1);
            Due.due("as it was behind " + n, x.digest(), digests[n]);
        }
    }

    private static void undoRefused() {
        BridgeAwake x = new BridgeAwake();
        Due.due("undo(0) without PEOPLE", x.undo(0), 0);
        Due.due("undo(1) without PEOPLE", x.undo(1), BAD);
        Due.due("undo(-1)", x.undo(-1), BAD);
        x = Due.bridgeOf("h319t11t11", 2);
        x.watch(0, 1);
        Due.due("undo(2)", x.undo(2), BAD);
        Due.due("undo(-1)", x.undo(-1), BAD);
        Due.due("DEEDS", x.count(2), 1);
    }

    private static void keeping() {
        BridgeAwake x = Due.bridgeOf("h319 l51 c40 p73 q12", 3);
        x.watch(0, 1);
        x.load(3);
        x.coffee(1);
        Due.due("keep(0)", x.keep(0), 3);
        Due.due("keep(2)", x.keep(2), 3);
        long there = x.digest();
        x.load(60);
        x.watch(1, 2);
        x.watch(1, 2);
        x.coffee(2);
        Due.due("on(0)", x.on(0), 3);
        Due.due("as it was kept", x.digest(), there);
        Due.due("undo(1) of what was kept", x.undo(1), 2);
        Due.due("COFFEE is back", x.count(4), 9);
        Due.due("keep(0) anew", x.keep(0), 1);
        Due.due("on(2)", x.on(2), 3);
        Due.due("on(2) again", x.on(2), 3);
        Due.due("COFFEE is drunk", x.count(4), 8);
        Due.due("LOADS crossed", x.count(5), 1);
        Due.due("LOADS FELL", x.count(6), 0);
        Due.due("on(0)", x.on(0), 1);
        Due.due("kept", x.count(10), 2);
        x.undo(0);
        x.load(60);
        x.watch(1, 2);
        Due.due("on(2) behind other DEEDS", x.on(2), 3);
        Due.due("undo(2): its own DEEDS", x.undo(2), 1);
        Due.due("HOURS", x.count(1), 1);
        Due.due("LOADS crossed", x.count(5), 1);
        Due.told(x, "UP", x.one(0, 3), 1);
        Due.told(x, "UP", x.one(1, 3), 1);
    }

    private static void keepRefused() {
        BridgeAwake x = new BridgeAwake();
        Due.due("keep(3) without PEOPLE", x.keep(3), BAD);
        Due.due("keep(0) without PEOPLE", x.keep(0), STATE);
        Due.finds(x, "on(0)", x.on(0), NOTHING);
        Due.due("on(3)", x.on(3), BAD);
        x = Due.bridgeOf("h319t11t11", 2);
        Due.due("keep(3)", x.keep(3), BAD);
        Due.due("keep(-1)", x.keep(-1), BAD);
        Due.due("on(-1)", x.on(-1), BAD);
        Due.finds(x, "on(2)", x.on(2), NOTHING);
        Due.due("keep(2)", x.keep(2), 0);
        Due.due("on(2)", x.on(2), 0);
    }
}
