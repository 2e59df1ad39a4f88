/** Promises 25 to 29: sagged, sure, lasts, kinds, test. */
public final class GuessTest {
    private static final int BAD = -1, STATE = -4, NONE = -9, NOTHING = 1, UNLIKE = 3, NOUGHT = 4, SIZE = 5;

    public static void main(String[] args) {
        sags();
        sureOnes();
        strengthsRefused();
        lasting();
        kinds();
        tests();
        triplesRefused();
        Due.end();
    }

    private static void sags() {
        BridgeAwake x = Due.bridgeOf("h100 t30 t20 t20 t10", 4);
        long ahead = x.digest();
        Due.rowOf(x, 0, 10);
        Due.share(x, "sagged by 10", x.sagged(0), 2, 1);
        Due.due("first WATCH", x.asked(), 1);
        Due.rowOf(x, 0, 9);
        Due.share(x, "sagged by 9", x.sagged(0), 2, 1);
        Due.due("first WATCH", x.asked(), 3);
        Due.rowOf(x, 0, 8);
        Due.share(x, "sagged by 8", x.sagged(0), 2, 1);
        Due.due("first WATCH", x.asked(), 13);
        Due.rowOf(x, 0, 60);
        Due.share(x, "sagged by 60", x.sagged(0), 0, 1);
        Due.due("no WATCH", x.asked(), NONE);
        Due.rowOf(x, 0, 10, 8);
        Due.share(x, "sagged by 10, 8", x.sagged(0), byHand(10, 8), 1);
        x.tear(0);
        Due.due("aside", x.digest(), ahead);
        x = Due.bridgeOf("h000t00t00t00t00t00t00", 6);
        Due.rowOf(x, 0, 0, 0, 0);
        Due.share(x, "all rows", x.sagged(0), 3375, 1);
        Due.due("first WATCH", x.asked(), 1);
    }

    /** TALKERS 3, 2, 2, 1 who last 0 hours, from STRENGTH 10 on: the rows of two WATCHES. */
    private static int byHand(int first, int second) {
        int[] lively = {3, 2, 2, 1};
        int found = 0;
        for (int a = 0; a < 4; a++) {
            for (int b = a + 1; b < 4; b++) {
                for (int c = 0; c < 4; c++) {
                    for (int d = c + 1; d < 4; d++) {
                        int behind = 5 + lively[a] + lively[b];
                        int one = c == a || c == b ? Math.max(0, lively[c] - 2) : lively[c];
                        int other = d == a || d == b ? Math.max(0, lively[d] - 2) : lively[d];
                        if (behind == first && behind / 2 + one + other == second) {
                            found++;
                        }
                    }
                }
            }
        }
        return found;
    }

    private static void sureOnes() {
        BridgeAwake x = Due.bridgeOf("h100 t30 t20 t20 t10", 4);
        long upper = x.upper();
        Due.rowOf(x, 0, 10);
        Due.due("by 10: 0 surely", x.sure(0), 1);
        Due.due("by 10: 3 had none", x.asked(), 8);
        Due.due("upper() stays", x.upper(), upper);
        Due.rowOf(x, 0, 9);
        Due.due("by 9: nobody surely", x.sure(0), 0);
        Due.due("by 9: all had some", x.asked(), 0);
        Due.rowOf(x, 0, 60);
        Due.finds(x, "by no row", x.sure(0), NOUGHT);
        Due.due("asked() stays", x.asked(), 0);
        Due.rowOf(x, 0, 10);
        Due.due("by 10 again", x.sure(0), 1);
        Due.due("by 10 again: 3 had none", x.asked(), 8);
        x = Due.bridgeOf("h400 t99 t49 t19", 3);
        Due.rowOf(x, 0, 33, 29);
        Due.due("by 33, 29: both", x.sure(0), 3);
        Due.due("by 33, 29: 2 had none", x.asked(), 4);
        Due.rowOf(x, 0, 33, 26);
        Due.due("in some WATCH of all", x.sure(0), 7);
        Due.due("all had some", x.asked(), 0);
    }

    private static void strengthsRefused() {
        BridgeAwake x = new BridgeAwake();
        Due.due("sagged without PEOPLE", x.sagged(0), STATE);
        Due.due("sagged(6)", x.sagged(6), BAD);
        Due.due("sagged(-1)", x.sagged(-1), BAD);
        Due.due("sure without PEOPLE", x.sure(0), STATE);
        Due.due("sure(6)", x.sure(6), BAD);
        Due.due("sure(-1)", x.sure(-1), BAD);
        x = Due.bridgeOf("h100t30t20", 2);
        Due.finds(x, "sagged by a missing one", x.sagged(0), NOTHING);
        Due.finds(x, "sure by a missing one", x.sure(0), NOTHING);
        int[][] sizes = {{}, {0, 0, 0, 61}};
        for (int[] places : sizes) {
            Due.rowOf(x, 0, places);
            Due.finds(x, "sagged by none or 4", x.sagged(0), SIZE);
            Due.finds(x, "sure by none or 4", x.sure(0), SIZE);
        }
        int[][] unlike = {{61}, {-1}, {1, 2, 61}};
        for (int[] places : unlike) {
            Due.rowOf(x, 0, places);
            Due.finds(x, "sagged by no STRENGTH", x.sagged(0), UNLIKE);
            Due.finds(x, "sure by no STRENGTH", x.sure(0), UNLIKE);
        }
    }

    private static void lasting() {
        BridgeAwake x = Due.bridgeOf("h100 t63 b63 l63 c63 p73 w63", 6);
        Due.rowOf(x, 0);
        for (int i = 0; i < 6; i++) {
            Due.due("by none all", x.lasts(i, 0), 1023);
        }
        Due.rowOf(x, 0, 5, 7, 2);
        Due.due("TALKER", x.lasts(0, 0), 1 << 3);
        Due.due("BORE", x.lasts(1, 0), 1 << 4);
        Due.due("LOVER", x.lasts(2, 0), 1 << 3);
        Due.due("CHILD", x.lasts(3, 0), 0);
        Due.due("PREACHER", x.lasts(4, 0), 1023 & ~31);
        Due.due("WIDOWER", x.lasts(5, 0), 0);
        Due.rowOf(x, 0, 5, 0, 8);
        Due.due("LOVER early", x.lasts(2, 0), 1023 & ~31);
        Due.due("WIDOWER early", x.lasts(5, 0), 1023);
        Due.rowOf(x, 0, 9, 0, 0, 2, 11, 6);
        Due.due("by both", x.lasts(0, 0), 0b1111100);
        x.watch(0, 1);
        Due.due("UP now is nothing", x.lasts(0, 0), 0b1111100);
    }

    private static void kinds() {
        BridgeAwake x = Due.bridgeOf("h100 t62 l20", 2);
        Due.rowOf(x, 0);
        Due.due("by none all", x.kinds(0, 0), 63);
        Due.rowOf(x, 0, 0, 5, 6);
        Due.due("6 late", x.kinds(0, 0), 0b100101);
        Due.rowOf(x, 0, 0, 0, 8);
        Due.due("8 early", x.kinds(0, 0), 0b100100);
        Due.rowOf(x, 0, 0, 0, 8, 4, 0, 8);
        Due.due("8 early, tired too", x.kinds(0, 0), 0b100000);
        Due.rowOf(x, 0, 0, 2, 9);
        Due.due("9 early", x.kinds(0, 0), 0b001000);
        Due.rowOf(x, 0, 0, 3, 0);
        Due.due("0 in hour 3", x.kinds(0, 0), 0b001000);
        Due.due("0 in hour 3 by another", x.kinds(1, 0), 0b011000);
        Due.rowOf(x, 0, 0, 3, 3);
        Due.due("3", x.kinds(0, 0), 0b000010);
        Due.rowOf(x, 0, 30, 11, 15);
        Due.due("15", x.kinds(0, 0), 0);
    }

    private static void tests() {
        BridgeAwake x = Due.bridgeOf("h100 t62 l20 t99 t99 t04", 5);
        Due.rowOf(x, 0);
        // hour 0: 6 3 8 9 2 8
        Due.due("all", x.test(0, 0), 0);
        Due.due("part", x.asked(), 2);
        Due.rowOf(x, 0, 0, 0, 8);
        Due.due("LOVER, WIDOWER are alike while not UP", x.test(0, 0), 0);
        Due.due("part", x.asked(), 2);
        x.watch(0, 1);
        x.watch(0, 1);
        x.watch(0, 1);
        // UP 3: 6 less 2
        Due.due("apart when UP", x.test(0, 0), 0);
        Due.due("part", x.asked(), 1);
        Due.rowOf(x, 0, 0, 5, 6);
        // TALKER 4, LOVER 6 or 4, WIDOWER 8 or 6
        Due.due("TALKER, LOVER, WIDOWER", x.test(0, 0), 0);
        Due.due("part", x.asked(), 1);
        // not lively, not UP: hours below 3: 0 0 2 3 0 2
        Due.rowOf(x, 0, 0, 4, 0);
        Due.due("all tell 0 late", x.test(4, 0), 0);
        Due.due("part", x.asked(), 3);
        x = Due.bridgeOf("h100 t59 t19", 2);
        // lively 1: BORE 0, CHILD 4 or 0, PREACHER 0
        Due.rowOf(x, 0, 0, 5, 0);
        Due.due("BORE, CHILD, PREACHER", x.test(1, 0), 0);
        Due.due("part", x.asked(), 2);
        Due.rowOf(x, 0, 0, 3, 15);
        int asked = x.asked();
        Due.due("no KIND", x.test(1, 0), NONE);
        Due.due("asked() stays", x.asked(), asked);
        laterIsBetter();
    }

    private static void laterIsBetter() {
        BridgeAwake x = Due.bridgeOf("h000 t19 t99 t99", 3);
        // lively 1: TALKER 1, BORE 0, LOVER 3 or 1, CHILD 4 or 0, PREACHER 0, WIDOWER 3 or 1
        Due.rowOf(x, 0, 0, 4, 1);
        Due.due("TALKER, LOVER, WIDOWER early", x.test(0, 0), 0);
        Due.due("part", x.asked(), 2);
        x = Due.bridgeOf("h000 c30 t99", 2);
        x.watch(0, 1);
        // lively 3, UP 1, lasts 0: TALKER 1, BORE 0, LOVER 3 or 1, CHILD 4 or 0, PREACHER 0, WIDOWER 5 or 3
        Due.rowOf(x, 0, 0, 3, 0);
        Due.due("CHILD, PREACHER", x.test(0, 0), 0);
        Due.due("part", x.asked(), 1);
        x = Due.bridgeOf("h000 l10 t99", 2);
        x.watch(0, 1);
        // lively 1, UP 1: TALKER 0, BORE 0, LOVER 2 or 0, CHILD 3 or 0, PREACHER 0, WIDOWER 3 or 1
        Due.rowOf(x, 0, 0, 4, 1);
        Due.due("TALKER 0, LOVER 2, WIDOWER 3", x.test(0, 0), 0);
        Due.due("part", x.asked(), 1);
        // CHILD 3 and WIDOWER 3 are alike below hour 3, in hour 3 they are 0 and 3
        Due.rowOf(x, 0, 1, 0, 3);
        Due.due("CHILD, WIDOWER", x.test(0, 0), 3);
        Due.due("part", x.asked(), 1);
    }

    private static void triplesRefused() {
        BridgeAwake x = new BridgeAwake();
        Due.due("lasts of nobody", x.lasts(0, 0), BAD);
        Due.due("kinds of nobody", x.kinds(0, 0), BAD);
        Due.due("test of nobody", x.test(0, 0), BAD);
        x = Due.bridgeOf("h100t62l20", 2);
        int[][] bad = {{2, 0}, {-1, 0}, {0, 6}, {0, -1}};
        for (int[] both : bad) {
            Due.due("lasts", x.lasts(both[0], both[1]), BAD);
            Due.due("kinds", x.kinds(both[0], both[1]), BAD);
            Due.due("test", x.test(both[0], both[1]), BAD);
        }
        refused(x, "missing", NOTHING);
        int[][] sizes = {{99}, {0, 99}, {0, 0, 0, 99}};
        for (int[] places : sizes) {
            Due.rowOf(x, 0, places);
            refused(x, "no triples", SIZE);
        }
        int[][] unlike = {{31, 0, 0}, {-1, 0, 0}, {0, 12, 0}, {0, -1, 0}, {0, 0, 16}, {0, 0, -1},
            {0, 0, 15, 31, 0, 0}, {0, 0, 0, 0, 0, 16}};
        for (int[] places : unlike) {
            Due.rowOf(x, 0, places);
            refused(x, "no such numbers", UNLIKE);
        }
    }

    private static void refused(BridgeAwake x, String why, int finding) {
        Due.finds(x, "lasts: " + why, x.lasts(0, 0), finding);
        Due.finds(x, "kinds: " + why, x.kinds(0, 0), finding);
        Due.finds(x, "test: " + why, x.test(0, 0), finding);
    }
}
