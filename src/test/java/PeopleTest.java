/** Promises 12 to 14: one, mark, talk. */
public final class PeopleTest {
    private static final int BAD = -1, UNLIKE = 3;
    private static final String ALL = "h000 t92 b92 l92 c92 p92 w92 q01 q45";

    public static void main(String[] args) {
        tellsFresh();
        tellsByHours();
        tellsTired();
        oneRefused();
        marks();
        marksByHours();
        preachers();
        markRefused();
        talks();
        Due.end();
    }

    private static void tells(BridgeAwake x, String when, int... want) {
        for (int i = 0; i < want.length; i++) {
            Due.told(x, when + ": what " + i + " TELLS", x.one(i, 4), want[i]);
        }
    }

    private static void tellsFresh() {
        BridgeAwake x = Due.bridgeOf(ALL, 6);
        tells(x, "hour 0", 9, 4, 11, 12, 3, 11);
        x = Due.bridgeOf("h000t09b19l09c09p09w09", 6);
        tells(x, "not lively", 0, 0, 2, 3, 0, 2);
        x = Due.bridgeOf("h000p39p29", 2);
        tells(x, "a PREACHER is not below 0", 0, 0);
    }

    private static void tellsByHours() {
        BridgeAwake x = Due.bridgeOf("h000 t99 t99 l70 c79 w70", 5);
        int[] lovers = {9, 9, 9, 9, 7, 7, 7, 7, 7, 7, 7, 7, 9, 9, 9, 9, 7};
        int[] children = {10, 10, 10, 0, 0, 0, 0, 0, 0, 0, 0, 0, 10, 10, 10, 0, 0};
        for (int hours = 0; hours < lovers.length; hours++) {
            Due.due("HOURS", x.count(1), hours);
            Due.told(x, "LOVER in " + hours, x.one(2, 4), lovers[hours]);
            Due.told(x, "CHILD in " + hours, x.one(3, 4), children[hours]);
            Due.told(x, "WIDOWER in " + hours, x.one(4, 4), lovers[hours]);
            x.watch(0, 1);
        }
    }

    private static void tellsTired() {
        BridgeAwake x = Due.bridgeOf(ALL, 6);
        for (int k = 0; k < 3; k++) {
            x.watch(0, 1);
        }
        Due.told(x, "UP", x.one(0, 3), 3);
        tells(x, "UP 3, hour 3", 7, 3, 11, 0, 3, 11);
        x.watch(0, 1);
        x.watch(2, 5);
        Due.told(x, "UP less", x.one(0, 3), 2);
        tells(x, "UP 2, hour 5", 9, 4, 9, 0, 3, 9);
        for (int k = 0; k < 8; k++) {
            x.watch(2, 5);
        }
        Due.told(x, "UP long", x.one(2, 3), 9);
        tells(x, "UP 9, hour 1", 9, 4, 2, 12, 3, 11);
        Due.told(x, "UP not below 0", x.one(0, 3), 0);
        for (int k = 0; k < 27; k++) {
            x.watch(2, 5);
        }
        Due.told(x, "UP 30 at most", x.one(2, 3), 30);
        Due.told(x, "UP 30 at most", x.one(5, 3), 30);
    }

    private static void oneRefused() {
        BridgeAwake x = new BridgeAwake();
        Due.due("one of nobody", x.one(0, 0), BAD);
        x = Due.bridgeOf("h000t12t34", 2);
        Due.told(x, "one(1, 1)", x.one(1, 1), 3);
        Due.due("one(2, 0)", x.one(2, 0), BAD);
        Due.due("one(-1, 0)", x.one(-1, 0), BAD);
        Due.due("one(0, 6)", x.one(0, 6), BAD);
        Due.due("one(0, -1)", x.one(0, -1), BAD);
        Due.due("asked() stays", x.asked(), 3);
    }

    private static void marks() {
        BridgeAwake x = Due.bridgeOf(ALL, 6);
        Due.due("BORE less", x.mark(1, 1), 5);
        Due.due("PREACHER less", x.mark(4, 1), 6);
        x.watch(1, 5);
        x.watch(1, 5);
        x.watch(1, 5);
        x.watch(1, 5);
        Due.due("tired BORE less", x.mark(1, 1), 3);
        Due.due("WIDOWER more", x.mark(5, 5), 4);
        x.coffee(5);
        Due.due("asked() is not told", x.asked(), 0);
    }

    private static void marksByHours() {
        BridgeAwake x = Due.bridgeOf("h000 l11 w11 c11 t11", 4);
        int[] lover = {0, 0, 0, 0, 8, 7, 6, 5, 4, 3, 2, 1, 0, 0};
        int[] child = {3, 2, 1, 0, 0, 0, 0, 0, 0, 0, 0, 0, 3, 2};
        for (int hours = 0; hours < lover.length; hours++) {
            Due.due("LOVER, hour " + hours, x.mark(0, 2), lover[hours]);
            Due.due("WIDOWER, hour " + hours, x.mark(1, 2), lover[hours]);
            Due.due("CHILD, hour " + hours, x.mark(2, 3), child[hours]);
            x.watch(0, 3);
        }
    }

    private static void preachers() {
        BridgeAwake x = Due.bridgeOf("h000 p09 t09 t19 t39 p49 q03 q04", 5);
        Due.due("PREACHER, with 1 alone above 0, and 1 of a PREACHER", x.mark(0, 4), 1);
        Due.due("other PREACHER", x.mark(4, 4), 3);
        x = Due.bridgeOf("h000 p09 t49 q01", 2);
        Due.due("half of 1 is told of something above 0", x.mark(0, 4), 1);
        x = Due.bridgeOf("h000 t39 t09 t19 p09", 4);
        Due.due("with 0 and 2", x.mark(3, 4), 2);
    }

    private static void markRefused() {
        BridgeAwake x = new BridgeAwake();
        Due.due("mark of nobody", x.mark(0, 1), BAD);
        x = Due.bridgeOf("h000t11b11l11c11p11w11", 6);
        boolean[][] is = {
            {false, false, false, false, false}, {true, false, false, false, false},
            {false, true, false, false, false}, {false, false, true, false, false},
            {true, false, false, true, false}, {false, true, false, false, true}};
        for (int i = 0; i < 6; i++) {
            for (int kind = 1; kind <= 5; kind++) {
                if (is[i][kind - 1]) {
                    Due.due(i + " IS of " + kind, x.mark(i, kind) >= 0 ? 1 : 0, 1);
                } else {
                    Due.finds(x, i + " IS not of " + kind, x.mark(i, kind), UNLIKE);
                }
            }
            Due.due("KIND 0", x.mark(i, 0), BAD);
            Due.due("KIND 6", x.mark(i, 6), BAD);
            Due.due("KIND -1", x.mark(i, -1), BAD);
        }
        Due.due("mark(6, 1)", x.mark(6, 1), BAD);
        Due.due("mark(-1, 1)", x.mark(-1, 1), BAD);
    }

    private static void talks() {
        BridgeAwake x = new BridgeAwake();
        Due.due("talk of nobody", x.talk(0, 1), BAD);
        x = Due.bridgeOf(ALL, 6);
        Due.due("talk(0, 2)", x.talk(0, 2), 20);
        Due.due("talk(2, 0)", x.talk(2, 0), 20);
        Due.due("who QUARREL", x.talk(0, 1), 10);
        Due.due("with a PREACHER, cut", x.talk(2, 4), 7);
        Due.due("with a PREACHER, who QUARREL, cut", x.talk(5, 4), 5);
        x = Due.bridgeOf("h000t19t19p99p99q01", 4);
        Due.due("0 at least", x.talk(0, 1), 0);
        Due.due("two PREACHERS are half once", x.talk(2, 3), 3);
        x = Due.bridgeOf("h000t09p09q01", 2);
        Due.due("half of less than 0", x.talk(0, 1), 0);
        Due.due("alike", x.talk(0, 0), BAD);
        Due.due("talk(0, 2)", x.talk(0, 2), BAD);
        Due.due("talk(2, 0)", x.talk(2, 0), BAD);
        Due.due("talk(-1, 0)", x.talk(-1, 0), BAD);
        Due.due("talk(0, -1)", x.talk(0, -1), BAD);
    }
}
