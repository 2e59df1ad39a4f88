/** Promises 30 to 34: pairs, duel, odds, mid, lots. */
public final class ChancesTest {
    private static final int BAD = -1, FULL = -2, STATE = -4, NONE = -9;

    public static void main(String[] args) {
        allInPairs();
        duels();
        odds();
        oddsOfPreachers();
        means();
        chancesRefused();
        lots();
        lotsRefused();
        Due.end();
    }

    private static void allInPairs() {
        BridgeAwake x = Due.bridgeOf("h000 t50 t40 p90 t30", 4);
        // 0 1: 9, 2 3: (3 + 3) / 2 = 3; 0 2: 4, 1 3: 7; 0 3: 8, 1 2: 3
        long ahead = x.digest();
        Due.due("pairs", x.pairs(1), 12);
        Due.isRow(x, 1, 1, 0, 3, 2);
        x.tear(1);
        Due.due("aside", x.digest(), ahead);
        x = Due.bridgeOf("h000 t50 t40 t60 t30 q01 q23", 4);
        Due.due("pairs who QUARREL less", x.pairs(1), 18);
        Due.isRow(x, 1, 2, 3, 0, 1);
        x = Due.bridgeOf("h000t11t11t11", 3);
        Due.due("three alike: the first is left", x.pairs(0), 2);
        Due.isRow(x, 0, NONE, 2, 1);
        x = Due.bridgeOf("h000t99t11t99t11t11", 5);
        Due.due("five", x.pairs(0), 20);
        Due.isRow(x, 0, 1, 0, 3, 2, NONE);
        x = Due.bridgeOf("h000t00t00t00t00t00t00", 6);
        Due.due("six of nothing", x.pairs(5), 0);
        Due.isRow(x, 5, 1, 0, 3, 2, 5, 4);
        Due.due("pairs(6)", x.pairs(6), BAD);
        Due.due("pairs(-1)", x.pairs(-1), BAD);
        x = new BridgeAwake();
        Due.due("pairs without PEOPLE", x.pairs(0), STATE);
        Due.due("no ROW", x.count(8), 0);
    }

    private static void duels() {
        BridgeAwake x = Due.bridgeOf("h200 t90 t80 t10", 3);
        long ahead = x.digest();
        Due.due("duel(0)", x.duel(0), 20);
        Due.due("duel(1): as best", x.duel(1), 27);
        // first 01: 27, then 02: 13 + 7 + 1, 12: 13 + 6 + 1, 01: 13 + 13; 02: 20, then 12: 10 + 8 + 0 = 18,
        // 02: 10 + 7 + 0 = 17; 12: 19, then 12: 9 + 6 + 0 = 15
        Due.due("duel(2): the second wants little", x.duel(2), 20);
        Due.due("aside", x.digest(), ahead);
        Due.due("best(3) is no less than duel(3)", x.best(3, 0) >= x.duel(3) ? 1 : 0, 1);
        Due.due("duel(3): the first has the last turn", x.duel(3), thirdTurn(x));
        x = Due.bridgeOf("h400t99t99", 2);
        Due.due("one PAIR", x.duel(3), 36);
        Due.due("duel(4)", x.duel(4), BAD);
        Due.due("duel(-1)", x.duel(-1), BAD);
        x = new BridgeAwake();
        Due.due("duel without PEOPLE", x.duel(0), STATE);
        Due.due("duel(4) without PEOPLE", x.duel(4), BAD);
    }

    /** By way of through(), of three PEOPLE: the most of the least of the most. */
    private static int thirdTurn(BridgeAwake x) {
        int[] watches = {1, 2, 12};
        int most = -1;
        for (int a : watches) {
            int least = 61;
            for (int b : watches) {
                int last = -1;
                for (int c : watches) {
                    Due.rowOf(x, 4, a, b, c);
                    last = Math.max(last, x.through(4));
                }
                least = Math.min(least, last);
            }
            most = Math.max(most, least);
        }
        return most;
    }

    private static void odds() {
        BridgeAwake x = Due.bridgeOf("h100 t50 t30 q01", 2);
        // asleep: 5; 0 alone 10; 1 alone 8; both 5 + 8 - 3 = 10
        long ahead = x.digest();
        Due.share(x, "odds of 5", x.odds(0, 1, 5, 4), 1, 1);
        Due.share(x, "odds of 6", x.odds(0, 1, 6, 4), 8, 9);
        Due.share(x, "odds of 8", x.odds(0, 1, 8, 4), 8, 9);
        Due.share(x, "odds of 9", x.odds(0, 1, 9, 4), 2, 3);
        Due.share(x, "odds of 9, the other way", x.odds(1, 0, 9, 3), 3, 4);
        Due.share(x, "odds of 11", x.odds(0, 1, 11, 4), 0, 1);
        Due.share(x, "never asleep", x.odds(0, 1, 10, 0), 1, 1);
        Due.share(x, "always asleep", x.odds(0, 1, 6, 12), 0, 1);
        Due.share(x, "always asleep", x.odds(0, 1, 5, 12), 1, 1);
        Due.share(x, "7 of 12, not lowest", x.odds(0, 1, 8, 7), 95, 144);
        Due.due("aside", x.digest(), ahead);
        Due.due("asked() stays", x.asked(), 0);
    }

    private static void oddsOfPreachers() {
        BridgeAwake x = Due.bridgeOf("h000 p90 t30", 2);
        // both (3 + 3) / 2 = 3; 0 alone 3; 1 alone 3
        Due.share(x, "odds of 3", x.odds(0, 1, 3, 6), 3, 4);
        Due.share(x, "odds of 4", x.odds(0, 1, 4, 6), 0, 1);
        Due.share(x, "mid", x.mid(0, 1, 6), 9, 4);
        x = Due.bridgeOf("h000 p90 t90", 2);
        // both (3 + 9) / 2 = 6; 0 alone 3; 1 alone 9
        Due.share(x, "one alone tells more", x.odds(0, 1, 7, 3), 3, 16);
        Due.share(x, "mid", x.mid(0, 1, 3), (9 * 6 + 3 * 3 + 3 * 9) / 2, 8);
    }

    private static void means() {
        BridgeAwake x = Due.bridgeOf("h100 t50 t30 q01", 2);
        long ahead = x.digest();
        Due.share(x, "mid, never asleep", x.mid(0, 1, 0), 10, 1);
        Due.share(x, "mid, always asleep", x.mid(0, 1, 12), 5, 1);
        // (5 + 10 + 8 + 10) / 4
        Due.share(x, "mid, half", x.mid(0, 1, 6), 33, 4);
        // 1 of 9 5, 2 of 9 10, 2 of 9 8, 4 of 9 10
        Due.share(x, "mid, a third", x.mid(1, 0, 4), 9, 1);
        Due.due("aside", x.digest(), ahead);
        x = Due.bridgeOf("h000t00t00", 2);
        Due.share(x, "mid of nothing", x.mid(0, 1, 5), 0, 1);
    }

    private static void chancesRefused() {
        BridgeAwake x = new BridgeAwake();
        Due.due("odds of nobody", x.odds(0, 1, 0, 0), BAD);
        Due.due("mid of nobody", x.mid(0, 1, 0), BAD);
        x = Due.bridgeOf("h100t50t30", 2);
        Due.due("odds, alike", x.odds(1, 1, 0, 0), BAD);
        Due.due("odds, 2", x.odds(0, 2, 0, 0), BAD);
        Due.due("odds, -1", x.odds(-1, 0, 0, 0), BAD);
        Due.due("odds of 61", x.odds(0, 1, 61, 0), BAD);
        Due.due("odds of -1", x.odds(0, 1, -1, 0), BAD);
        Due.due("odds by 13", x.odds(0, 1, 0, 13), BAD);
        Due.due("odds by -1", x.odds(0, 1, 0, -1), BAD);
        Due.due("mid, alike", x.mid(0, 0, 0), BAD);
        Due.due("mid, 2", x.mid(2, 0, 0), BAD);
        Due.due("mid, -1", x.mid(0, -1, 0), BAD);
        Due.due("mid by 13", x.mid(0, 1, 13), BAD);
        Due.due("mid by -1", x.mid(0, 1, -1), BAD);
        Due.due("upper()", x.upper(), 0);
        Due.due("lower()", x.lower(), 1);
    }

    private static void lots() {
        int[] seeds = {1, 4, 31337, 4711, 2147483646};
        for (int seed : seeds) {
            BridgeAwake x = Due.bridgeOf("h219 t53 b64 l42 c51 p93 q01 q34", 5);
            BridgeAwake y = Due.bridgeOf("h219 t53 b64 l42 c51 p93 q01 q34", 5);
            Due.due("lots(20, " + seed + ")", x.lots(20, seed), byHand(y, 5, 20, seed));
            Due.due("the same DEEDS", x.digest(), y.digest());
            Due.due("lots(20, " + seed + ") again", x.lots(20, seed), byHand(y, 5, 20, seed));
            Due.due("undo(7)", x.undo(7), y.undo(7));
            Due.due("the same DEEDS", x.digest(), y.digest());
        }
        BridgeAwake x = Due.bridgeOf("h400t00t00", 2);
        // 48271 modulo 4 is 3: a WATCH
        Due.due("lots(1, 1)", x.lots(1, 1), 20);
        // 4 times 48271: a LOAD of 24135 modulo 30
        Due.due("lots(1, 4)", x.lots(1, 4), 20);
        Due.due("it crossed", x.count(5), 1);
        x.load(60);
        Due.due("it FALLS", x.lots(1, 4), 0);
        Due.due("it FELL", x.count(6), 2);
    }

    private static int byHand(BridgeAwake y, int people, int n, long seed) {
        java.math.BigInteger number = java.math.BigInteger.valueOf(seed);
        for (int k = 0; k < n; k++) {
            number = number.multiply(java.math.BigInteger.valueOf(48271))
                    .mod(java.math.BigInteger.valueOf(2147483647));
            int it = number.intValue();
            if (it % 4 == 0) {
                y.load(it / 8 % 30);
                continue;
            }
            int i = it / 8 % people;
            int j = i;
            for (int step = 0; step < 1 + it / 64 % (people - 1); step++) {
                j = j == people - 1 ? 0 : j + 1;
            }
            y.watch(i, j);
        }
        return y.count(3);
    }

    private static void lotsRefused() {
        BridgeAwake x = new BridgeAwake();
        Due.due("lots without PEOPLE", x.lots(1, 1), STATE);
        Due.due("lots(0, 1)", x.lots(0, 1), BAD);
        x = Due.bridgeOf("h400t00t00", 2);
        Due.due("lots(0, 1)", x.lots(0, 1), BAD);
        Due.due("lots(21, 1)", x.lots(21, 1), BAD);
        Due.due("lots(-1, 1)", x.lots(-1, 1), BAD);
        Due.due("lots(1, 0)", x.lots(1, 0), BAD);
        Due.due("lots(1, -1)", x.lots(1, -1), BAD);
        Due.due("lots(1, max)", x.lots(1, 2147483647), BAD);
        Due.due("no DEEDS", x.count(2), 0);
        Due.due("lots(20, max - 1)", x.lots(20, 2147483646) >= 0 ? 1 : 0, 1);
        x.load(0);
        Due.due("lots(20, 1): 41", x.lots(20, 1), FULL);
        Due.due("DEEDS", x.count(2), 21);
        Due.due("lots(19, 1): 40", x.lots(19, 1) >= 0 ? 1 : 0, 1);
        Due.due("DEEDS", x.count(2), 40);
    }
}
