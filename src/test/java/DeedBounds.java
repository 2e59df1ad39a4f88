/** Sentences about DEEDS: promises 15 to 20. */
final class DeedBounds extends Bounds {
    static void all() {
        aWatch();
        upAndDown();
        aLoad();
        deeds();
        numbersOfPairs();
        promise15();
        promise16();
        promise17();
        promise17Order();
        promise18();
        promise19();
        promise20();
    }

    private static void aWatch() {
        terms("11, 12, 38", "2 HOUR 0 it is at first, nobody was UP.", x -> {
            due(x.count(1), 0);
            bridgeOf(x, "h409l12c34t56b78p90w09", 6);
            due(x.count(1), 0);
            for (int i = 0; i < 6; i++) {
                told(x, x.one(i, 3), 0);
            }
            due(x.mark(0, 2), 0);
            due(x.mark(1, 3), 3);
        });
        terms("15, 38", "A WATCH of a PAIR takes an hour:", x -> {
            bridgeOf(x, "h409l12t34", 2);
            for (int hours = 0; hours < 40; hours++) {
                due(x.count(1), hours);
                due(x.watch(0, 1) >= 0 ? 1 : 0, 1);
            }
            due(x.count(1), 40);
            refused(x, FULL, () -> x.watch(0, 1));
            due(x.count(1), 40);
        });
        terms("15", "STRENGTH is half (cut) of what it was, and what the PAIR tells (60 at most);", x -> {
            bridgeOf(x, "h159t29t19", 2);
            due(x.watch(0, 1), 10);
            due(x.watch(1, 0), 8);
            due(x.count(3), 8);
            bridgeOf(x, "h019t00t00", 2);
            due(x.watch(0, 1), 0);
            due(x.watch(0, 1), 0);
            // no PAIR tells more than 24, so that STRENGTH stays below 48: 60 is never more than what is told
            bridgeOf(x, "h409c99c99", 2);
            due(x.watch(0, 1), 44);
            due(x.watch(0, 1), 46);
            due(x.watch(0, 1), 47);
            due(x.watch(0, 1), 23);
        });
    }

    private static void upAndDown() {
        terms("15", "each of both was UP an hour more (30 at most),", x -> {
            bridgeOf(x, "h409t99t99t99", 3);
            for (int up = 1; up <= 30; up++) {
                x.watch(1, 2);
                told(x, x.one(1, 3), up);
                told(x, x.one(2, 3), up);
            }
            x.watch(1, 2);
            told(x, x.one(1, 3), 30);
            told(x, x.one(2, 3), 30);
            x.watch(0, 1);
            told(x, x.one(1, 3), 30);
            told(x, x.one(2, 3), 28);
            told(x, x.one(0, 3), 1);
        });
        terms("15", "each other one 2 less (0 at least).", x -> {
            bridgeOf(x, "h409t99t99t99t99", 4);
            watches(x, 3, 0, 1);
            x.watch(2, 3);
            told(x, x.one(0, 3), 1);
            told(x, x.one(1, 3), 1);
            told(x, x.one(2, 3), 1);
            x.watch(1, 3);
            told(x, x.one(0, 3), 0);
            told(x, x.one(2, 3), 0);
            told(x, x.one(1, 3), 2);
            told(x, x.one(3, 3), 2);
            x.watch(1, 3);
            told(x, x.one(0, 3), 0);
            x.watch(0, 2);
            told(x, x.one(1, 3), 1);
            told(x, x.one(0, 3), 1);
        });
    }

    private static void aLoad() {
        terms("16", "A LOAD crosses, if STRENGTH is as much or more; else it FALLS, and STRENGTH is 0.", x -> {
            bridgeOf(x, "h259t11t11", 2);
            due(x.load(24), 1);
            due(x.load(25), 1);
            due(x.count(3), 25);
            due(x.count(5), 2);
            due(x.load(26), 0);
            due(x.count(3), 0);
            due(x.count(6), 1);
            due(x.load(0), 1);
            due(x.load(1), 0);
            due(x.count(3), 0);
            due(x.count(5), 3);
            due(x.count(6), 2);
            due(x.watch(0, 1), 2);
        });
    }

    private static void deeds() {
        terms("15, 16, 17", "What is done: a WATCH, a LOAD is sent, one drinks COFFEE (there is 1 less, one was not UP).",
                x -> {
            bridgeOf(x, "h402t91t91", 2);
            due(x.count(2), 0);
            watches(x, 3, 0, 1);
            due(x.count(2), 3);
            due(x.load(1), 1);
            due(x.load(60), 0);
            due(x.count(2), 5);
            due(x.coffee(1), 1);
            due(x.count(2), 6);
            due(x.count(4), 1);
            told(x, x.one(1, 3), 0);
            told(x, x.one(0, 3), 3);
            told(x, x.one(1, 4), 9);
            due(x.count(1), 3);
            due(x.coffee(0), 0);
            due(x.count(4), 0);
            x.fault(0);
            x.talk(0, 1);
            x.best(1, 0);
            x.watch(0, 0);
            x.load(61);
            x.coffee(0);
            due(x.count(2), 7);
        });
        terms("15, 16, 17, 34", "These are DEEDS (40 at most).", x -> {
            bridgeOf(x, "h409t11t11", 2);
            loads(x, 37);
            due(x.watch(0, 1) >= 0 ? 1 : 0, 1);
            due(x.coffee(0), 8);
            due(x.lots(1, 1) >= 0 ? 1 : 0, 1);
            due(x.count(2), 40);
            refused(x, FULL, () -> x.watch(0, 1));
            refused(x, FULL, () -> x.load(0));
            refused(x, FULL, () -> x.coffee(1));
            refused(x, FULL, () -> x.lots(1, 1));
            due(x.count(2), 40);
        });
    }

    private static void numbersOfPairs() {
        terms("21, 22, 25", "WATCHES are told by numbers of PAIRS: 10 times the lesser number of both and the other one;",
                x -> {
            bridgeOf(x, "h000t00t00t00t00t90t90", 6);
            due(x.best(1, 0), 18);
            isRow(x, 0, 45);
            rowOf(x, 1, 18);
            told(x, x.sagged(1), 45);
            rowOf(x, 2, 45);
            due(x.through(2), 18);
            due(x.when(2, 18), 1);
            rowOf(x, 2, 1);
            due(x.through(2), 0);
            rowOf(x, 2, 54);
            finds(x, UNLIKE, () -> x.through(2));
            rowOf(x, 2, 10);
            finds(x, UNLIKE, () -> x.through(2));
            rowOf(x, 2, 44);
            finds(x, UNLIKE, () -> x.through(2));
            rowOf(x, 2, 46);
            finds(x, UNLIKE, () -> x.through(2));
        });
        terms("21, 25", "rows of them go by numbers, the first ones first.", x -> {
            bridgeOf(x, "h000t00t00t00t00t00t00", 6);
            due(x.best(3, 0), 0);
            isRow(x, 0, 1, 1, 1);
            rowOf(x, 1, 0, 0, 0);
            told(x, x.sagged(1), 1);
            // 02, 03, 12, 13 are as good
            bridgeOf(x, "h000t39t39t49t49q01q23", 4);
            due(x.best(1, 0), 7);
            isRow(x, 0, 2);
            // 02, then 13 or 02 .. as none tires: always the first
            due(x.best(2, 0), 10);
            isRow(x, 0, 2, 2);
        });
    }

    private static void promise15() {
        of(15, "A WATCH: the STRENGTH then.", x -> {
            bridgeOf(x, "h409t59t39t19q02", 3);
            due(x.watch(0, 1), 28);
            due(x.watch(1, 0), 22);
            due(x.watch(2, 0), 14);
            due(x.watch(0, 2), 10);
            due(x.count(3), 10);
        });
        of(15, "BAD: also alike;", x -> {
            refused(x, BAD, () -> x.watch(0, 1));
            bridgeOf(x, "h409t59t39", 2);
            refused(x, BAD, () -> x.watch(0, 0));
            refused(x, BAD, () -> x.watch(1, 1));
            refused(x, BAD, () -> x.watch(0, 2));
            refused(x, BAD, () -> x.watch(2, 0));
            refused(x, BAD, () -> x.watch(-1, 0));
            refused(x, BAD, () -> x.watch(1, -1));
            refused(x, BAD, () -> x.watch(MAX, 0));
            refused(x, BAD, () -> x.watch(0, MIN));
        });
        of(15, "FULL: 40 DEEDS.", x -> {
            bridgeOf(x, "h409t59t39", 2);
            for (int k = 0; k < 40; k++) {
                due(x.watch(0, 1) >= 0 ? 1 : 0, 1);
            }
            refused(x, FULL, () -> x.watch(0, 1));
            due(x.undo(39), 1);
            due(x.watch(0, 1) >= 0 ? 1 : 0, 1);
            refused(x, FULL, () -> x.watch(0, 1));
        });
        of(15, "(FULL last.)", x -> {
            bridgeOf(x, "h409t59t39", 2);
            loads(x, 40);
            refused(x, BAD, () -> x.watch(0, 0));
            refused(x, BAD, () -> x.watch(0, 2));
            refused(x, BAD, () -> x.watch(-1, 0));
            refused(x, FULL, () -> x.watch(1, 0));
        });
    }

    private static void promise16() {
        of(16, "A LOAD (0 .. 60) is sent: 1 it crosses, 0 it FALLS.", x -> {
            bridgeOf(x, "h409t11t11", 2);
            due(x.load(0), 1);
            due(x.load(40), 1);
            due(x.load(60), 0);
            due(x.load(0), 1);
            due(x.load(60), 0);
            due(x.count(5), 3);
            due(x.count(6), 2);
        });
        of(16, "BAD;", x -> {
            bridgeOf(x, "h409t11t11", 2);
            refused(x, BAD, () -> x.load(-1));
            refused(x, BAD, () -> x.load(61));
            refused(x, BAD, () -> x.load(MAX));
            refused(x, BAD, () -> x.load(MIN));
        });
        of(16, "STATE: no PEOPLE;", x -> {
            refused(x, STATE, () -> x.load(0));
            refused(x, STATE, () -> x.load(60));
            refused(x, BAD, () -> x.load(61));
            refused(x, BAD, () -> x.load(-1));
        });
        of(16, "FULL. (FULL last.)", x -> {
            bridgeOf(x, "h409t11t11", 2);
            loads(x, 40);
            refused(x, FULL, () -> x.load(0));
            refused(x, FULL, () -> x.load(60));
            refused(x, BAD, () -> x.load(61));
            refused(x, BAD, () -> x.load(-1));
            due(x.undo(39), 1);
            loads(x, 1);
        });
    }

    private static void promise17() {
        of(17, "COFFEE: how much is left.", x -> {
            bridgeOf(x, "h409t90t90", 2);
            x.watch(0, 1);
            due(x.coffee(0), 8);
            due(x.coffee(1), 7);
            for (int left = 6; left >= 0; left--) {
                x.watch(0, 1);
                due(x.coffee(left % 2), left);
            }
            due(x.count(4), 0);
            bridgeOf(x, "h401t90t90", 2);
            watches(x, 31, 0, 1);
            due(x.coffee(1), 0);
            told(x, x.one(1, 3), 0);
            told(x, x.one(0, 3), 30);
            told(x, x.one(1, 4), 9);
        });
        of(17, "BAD; STATE: one was not UP;", x -> {
            refused(x, BAD, () -> x.coffee(0));
            bridgeOf(x, "h409t90t90t90", 3);
            refused(x, BAD, () -> x.coffee(3));
            refused(x, BAD, () -> x.coffee(-1));
            refused(x, BAD, () -> x.coffee(MAX));
            refused(x, BAD, () -> x.coffee(MIN));
            refused(x, STATE, () -> x.coffee(0));
            x.watch(0, 1);
            refused(x, STATE, () -> x.coffee(2));
            due(x.coffee(0), 8);
            refused(x, STATE, () -> x.coffee(0));
            x.watch(0, 2);
            refused(x, STATE, () -> x.coffee(1));
        });
        of(17, "SPENT: there is none;", x -> {
            bridgeOf(x, "h401t90t90", 2);
            watches(x, 2, 0, 1);
            due(x.coffee(0), 0);
            refused(x, SPENT, () -> x.coffee(1));
            due(x.undo(2), 1);
            due(x.coffee(1), 0);
            bridgeOf(x, "h400t90t90", 2);
            x.watch(0, 1);
            refused(x, SPENT, () -> x.coffee(0));
        });
    }

    private static void promise17Order() {
        of(17, "FULL. (FULL last.)", x -> {
            bridgeOf(x, "h401t90t90t90", 3);
            x.watch(0, 1);
            loads(x, 39);
            refused(x, FULL, () -> x.coffee(0));
            refused(x, BAD, () -> x.coffee(3));
            refused(x, STATE, () -> x.coffee(2));
            due(x.undo(38), 2);
            due(x.coffee(0), 0);
            loads(x, 1);
            refused(x, SPENT, () -> x.coffee(1));
            refused(x, STATE, () -> x.coffee(0));
            due(x.undo(39), 1);
            refused(x, SPENT, () -> x.coffee(1));
            bridgeOf(x, "h409t90t90", 2);
            x.watch(0, 1);
            loads(x, 38);
            due(x.coffee(1), 8);
            due(x.count(2), 40);
            refused(x, FULL, () -> x.coffee(0));
        });
    }

    private static void promise18() {
        of(18, "DEEDS from number n on (n 0 to how many there are: then 0) are undone: how many.", x -> {
            bridgeOf(x, "h319l51c40p73q12", 3);
            due(x.undo(0), 0);
            long[] digests = new long[8];
            digests[0] = x.digest();
            x.watch(0, 1);
            digests[1] = x.digest();
            x.watch(0, 2);
            digests[2] = x.digest();
            due(x.coffee(0), 8);
            digests[3] = x.digest();
            due(x.load(5), 1);
            digests[4] = x.digest();
            due(x.load(60), 0);
            digests[5] = x.digest();
            x.watch(1, 2);
            digests[6] = x.digest();
            due(x.coffee(1), 7);
            digests[7] = x.digest();
            aside(x, 0, () -> x.undo(7));
            due(x.undo(6), 1);
            due(x.digest(), digests[6]);
            due(x.undo(4), 2);
            due(x.digest(), digests[4]);
            for (int n = 3; n >= 0; n--) {
                due(x.undo(n), 1);
                due(x.digest(), digests[n]);
            }
            due(x.undo(0), 0);
            undoneOfAll();
            // what a bound has cut comes back as it was
            watches(x, 40, 0, 1);
            told(x, x.one(0, 3), 30);
            due(x.undo(29), 11);
            told(x, x.one(0, 3), 29);
            due(x.undo(0), 29);
            due(x.digest(), digests[0]);
        });
        of(18, "BAD.", x -> {
            due(x.undo(0), 0);
            refused(x, BAD, () -> x.undo(1));
            refused(x, BAD, () -> x.undo(-1));
            bridgeOf(x, "h319t11t11", 2);
            refused(x, BAD, () -> x.undo(1));
            loads(x, 3);
            refused(x, BAD, () -> x.undo(4));
            refused(x, BAD, () -> x.undo(-1));
            refused(x, BAD, () -> x.undo(MAX));
            refused(x, BAD, () -> x.undo(MIN));
            due(x.undo(1), 2);
            refused(x, BAD, () -> x.undo(2));
            due(x.undo(0), 1);
            loads(x, 40);
            refused(x, BAD, () -> x.undo(41));
            due(x.undo(0), 40);
        });
    }

    /** Whoever did them, the DEEDS that are not undone stay as they were done. */
    private static void undoneOfAll() {
        for (int i = 0; i < 6; i++) {
            for (int j = 0; j < 6; j++) {
                if (i == j) {
                    continue;
                }
                BridgeAwake x = ready("h309t51b71l31c62p92w41q05q34", 6);
                x.watch(i, j);
                x.watch(j, i);
                due(x.coffee(j), 8);
                due(x.load(3) + x.load(60), 1);
                x.watch(j, i);
                long before = x.digest();
                x.watch(0, 5);
                due(x.load(0), 1);
                due(x.undo(6), 2);
                due(x.digest(), before);
            }
        }
    }

    private static void promise19() {
        of(19, "The BRIDGE (as it is, DEEDS) is kept in a place (0 .. 2): how many DEEDS.", x -> {
            bridgeOf(x, "h319t90t90", 2);
            due(x.keep(0), 0);
            loads(x, 40);
            due(x.keep(2), 40);
            due(x.count(10), 2);
            due(x.keep(1), 40);
            due(x.count(10), 3);
            due(x.undo(1), 39);
            due(x.keep(1), 1);
            due(x.count(10), 3);
            due(x.on(0), 0);
            due(x.on(1), 1);
            due(x.on(2), 40);
            due(x.undo(39), 1);
            // what is done behind keep() stays out of what is kept
            x.watch(0, 1);
            due(x.on(2), 40);
            due(x.count(1), 0);
        });
        of(19, "BAD; STATE: no PEOPLE.", x -> {
            refused(x, BAD, () -> x.keep(-1));
            refused(x, BAD, () -> x.keep(3));
            refused(x, STATE, () -> x.keep(0));
            refused(x, STATE, () -> x.keep(2));
            bridgeOf(x, "h319t90t90", 2);
            refused(x, BAD, () -> x.keep(-1));
            refused(x, BAD, () -> x.keep(3));
            refused(x, BAD, () -> x.keep(MAX));
            refused(x, BAD, () -> x.keep(MIN));
            due(x.count(10), 0);
        });
    }

    private static void promise20() {
        of(20, "The BRIDGE is as it was kept: how many DEEDS.", x -> {
            bridgeOf(x, "h319l51c40p73q12", 3);
            x.watch(0, 1);
            due(x.load(3), 1);
            due(x.coffee(1), 8);
            due(x.keep(2), 3);
            long kept = x.digest();
            due(x.load(60), 0);
            watches(x, 30, 1, 2);
            due(x.coffee(2), 7);
            due(x.on(2), 3);
            due(x.digest(), kept);
            due(x.on(2), 3);
            due(x.digest(), kept);
            due(x.undo(0), 3);
            due(x.count(4), 9);
            due(x.count(5), 0);
            due(x.watch(1, 2) >= 0 ? 1 : 0, 1);
            due(x.on(2), 3);
            due(x.digest(), kept);
            due(x.undo(1), 2);
            told(x, x.one(0, 3), 1);
            told(x, x.one(1, 3), 1);
            told(x, x.one(2, 3), 0);
        });
        of(20, "BAD; NOTHING.", x -> {
            refused(x, BAD, () -> x.on(-1));
            refused(x, BAD, () -> x.on(3));
            finds(x, NOTHING, () -> x.on(0));
            bridgeOf(x, "h319t90t90", 2);
            refused(x, BAD, () -> x.on(-1));
            refused(x, BAD, () -> x.on(3));
            refused(x, BAD, () -> x.on(MAX));
            refused(x, BAD, () -> x.on(MIN));
            finds(x, NOTHING, () -> x.on(0));
            due(x.keep(1), 0);
            finds(x, NOTHING, () -> x.on(0));
            finds(x, NOTHING, () -> x.on(2));
            due(x.on(1), 0);
        });
    }
}
