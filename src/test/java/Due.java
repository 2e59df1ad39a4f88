/** What the tests share: the answer that is due, and short ways to lay ROWS and TEXTS. */
final class Due {
    private static int wrong = 0;

    private Due() {
    }

    static void due(String call, long got, long want) {
        if (got != want) {
            wrong++;
            System.out.println(call + " answered " + got + ", due is " + want);
        }
    }

    /** A call that is refused by a FINDING, with the FINDING's number. */
    static void finds(BridgeAwake x, String call, long got, int finding) {
        due(call, got, BridgeAwake.FINDING);
        due(call + ", finding()", x.finding(), finding);
    }

    static void told(BridgeAwake x, String call, long got, long want) {
        due(call, got, 1);
        due(call + ", asked()", x.asked(), want);
    }

    static void share(BridgeAwake x, String call, long got, long upper, long lower) {
        due(call, got, 1);
        due(call + ", upper()", x.upper(), upper);
        due(call + ", lower()", x.lower(), lower);
    }

    static void rowOf(BridgeAwake x, int r, int... places) {
        due("row", x.row(r, places.length), places.length);
        for (int i = 0; i < places.length; i++) {
            due("lay", x.lay(r, i, places[i]), 1);
        }
    }

    static void isRow(BridgeAwake x, int r, int... places) {
        for (int i = 0; i < places.length; i++) {
            told(x, "at(" + r + ", " + i + ")", x.at(r, i), places[i]);
        }
        due("at behind the end", x.at(r, places.length), BridgeAwake.FINDING);
    }

    static void textOf(BridgeAwake x, int t, String signs) {
        due("text", x.text(t, signs.length()), signs.length());
        for (int i = 0; i < signs.length(); i++) {
            due("put", x.put(t, i, signs.charAt(i)), 1032);
        }
    }

    /** A new object with the BRIDGE of a TEXT (in TEXT 0). */
    static BridgeAwake bridgeOf(String signs, int people) {
        BridgeAwake x = new BridgeAwake();
        textOf(x, 0, signs);
        due("bridge of " + signs, x.bridge(0), people);
        return x;
    }

    static void end() {
        System.out.println(wrong == 0 ? "all answers are as due" : wrong + " answers are not as due");
        if (wrong != 0) {
            System.exit(1);
        }
    }
}
