/** Sentences about PAIRS of all, turns, chances and lots: promises 30 to 34. */
final class ChanceBounds extends Bounds {
    static void all() {
        promise30();
        promise30Refused();
        promise31();
        promise32();
        promise32Alone();
        promise33();
        promise34();
        promise34Watches();
        promise34Refused();
    }

    private static void inPairs(BridgeAwake x, int together, int... partners) {
        due(x.pairs(5), together);
        isRow(x, 5, partners);
    }

    private static void promise30() {
        of(30, "All PEOPLE in PAIRS (any one is left, if they are of an odd number): "
                + "the most that these tell together now;", x -> {
            bridgeOf(x, "h009t50t40", 2);
            inPairs(x, 9, 1, 0);
            bridgeOf(x, "h009t19t29t39", 3);
            inPairs(x, 5, NONE, 2, 1);
            bridgeOf(x, "h009t29t19t39", 3);
            inPairs(x, 5, 2, NONE, 0);
            bridgeOf(x, "h009t39t29t19", 3);
            inPairs(x, 5, 1, 0, NONE);
            // 01 and 23: 9 + 3, 02 and 13: 4 + 7, 03 and 12: 8 + 3
            bridgeOf(x, "h009t50t40p90t30", 4);
            inPairs(x, 12, 1, 0, 3, 2);
            bridgeOf(x, "h009t10t10t10t10t10t10q01q23q45", 6);
            inPairs(x, 6, 2, 4, 0, 5, 1, 3);
            // the next HOUR: those of both watches TELL nothing any more
            bridgeOf(x, "h009t10t10t30", 3);
            x.watch(0, 1);
            inPairs(x, 3, NONE, 2, 1);
        });
        of(30, "with whom each one is comes to a ROW (anew; NONE: left), by the first such way (rising; NONE least).",
                x -> {
            bridgeOf(x, "h009t00t00", 2);
            inPairs(x, 0, 1, 0);
            rowOf(x, 5, 7, 8, 9, 10, 11, 12, 13);
            bridgeOf(x, "h009t00t00t00", 3);
            inPairs(x, 0, NONE, 2, 1);
            bridgeOf(x, "h009t00t00t00t00", 4);
            inPairs(x, 0, 1, 0, 3, 2);
            bridgeOf(x, "h009t00t00t00t00t00", 5);
            inPairs(x, 0, NONE, 2, 1, 4, 3);
            bridgeOf(x, "h009t00t00t00t00t00t00", 6);
            inPairs(x, 0, 1, 0, 3, 2, 5, 4);
            bridgeOf(x, "h009t99t19t99t19t19", 5);
            inPairs(x, 20, 1, 0, 3, 2, NONE);
            due(x.count(8), 1);
        });
    }

    private static void promise30Refused() {
        of(30, "BAD; STATE: no PEOPLE.", x -> {
            refused(x, STATE, () -> x.pairs(0));
            refused(x, STATE, () -> x.pairs(5));
            refused(x, BAD, () -> x.pairs(-1));
            refused(x, BAD, () -> x.pairs(6));
            rowOf(x, 0, 7, 8);
            refused(x, STATE, () -> x.pairs(0));
            isRow(x, 0, 7, 8);
            bridgeOf(x, "h009t00t00", 2);
            refused(x, BAD, () -> x.pairs(-1));
            refused(x, BAD, () -> x.pairs(6));
            refused(x, BAD, () -> x.pairs(MAX));
            refused(x, BAD, () -> x.pairs(MIN));
            due(x.count(8), 1);
        });
    }

    private static void promise31() {
        of(31, "By n (0 .. 3) turns in all one, then another one sends any PAIR on WATCH, the first wanting that "
                + "STRENGTH is much at last, the second little: how much.", x -> {
            // nobody tires: 01 6, 02 5, 12 3
            bridgeOf(x, "h009t49t29t19", 3);
            aside(x, 0, () -> x.duel(0));
            aside(x, 6, () -> x.duel(1));
            aside(x, 6, () -> x.duel(2));
            aside(x, 9, () -> x.duel(3));
            // 01: 27, then 02 or 12 or 01; 02: 20, then at least 17; 12: 19, then at least 15
            bridgeOf(x, "h200t90t80t10", 3);
            aside(x, 20, () -> x.duel(0));
            aside(x, 27, () -> x.duel(1));
            aside(x, 20, () -> x.duel(2));
            bridgeOf(x, "h400t99t99", 2);
            aside(x, 40, () -> x.duel(0));
            aside(x, 38, () -> x.duel(1));
            aside(x, 37, () -> x.duel(2));
            aside(x, 36, () -> x.duel(3));
            loads(x, 40);
            aside(x, 36, () -> x.duel(3));
        });
        of(31, "BAD; STATE: no PEOPLE.", x -> {
            refused(x, STATE, () -> x.duel(0));
            refused(x, STATE, () -> x.duel(3));
            refused(x, BAD, () -> x.duel(4));
            refused(x, BAD, () -> x.duel(-1));
            bridgeOf(x, "h009t00t00", 2);
            refused(x, BAD, () -> x.duel(4));
            refused(x, BAD, () -> x.duel(-1));
            refused(x, BAD, () -> x.duel(MAX));
            refused(x, BAD, () -> x.duel(MIN));
        });
    }

    private static void promise32() {
        of(32, "Chances that STRENGTH is v (0 .. 60) or more behind a WATCH of a PAIR now, "
                + "if each of both is asleep by p (0 .. 12) of 12, each by himself:", x -> {
            // nobody: 5; 0 alone: 10; 1 alone: 8; both 5 + 5 + 3 - 3
            bridgeOf(x, "h100t50t30q01", 2);
            share(x, x.odds(0, 1, 0, 12), 1, 1);
            share(x, x.odds(0, 1, 5, 12), 1, 1);
            share(x, x.odds(0, 1, 6, 12), 0, 1);
            share(x, x.odds(0, 1, 10, 0), 1, 1);
            share(x, x.odds(0, 1, 11, 0), 0, 1);
            share(x, x.odds(0, 1, 60, 0), 0, 1);
            share(x, x.odds(0, 1, 6, 1), 143, 144);
            share(x, x.odds(0, 1, 6, 11), 23, 144);
            share(x, x.odds(0, 1, 8, 11), 23, 144);
            share(x, x.odds(0, 1, 9, 11), 1, 12);
            share(x, x.odds(1, 0, 9, 5), 7, 12);
            share(x, x.odds(0, 1, 6, 6), 3, 4);
            share(x, x.odds(0, 1, 10, 4), 2, 3);
            due(x.count(2), 0);
            due(x.count(3), 10);
            due(x.asked(), 0);
        });
        of(32, "BAD: also alike.", x -> {
            refused(x, BAD, () -> x.odds(0, 1, 0, 0));
            bridgeOf(x, "h100t50t30", 2);
            share(x, x.odds(0, 1, 8, 6), 3, 4);
            refused(x, BAD, () -> x.odds(0, 0, 8, 6));
            refused(x, BAD, () -> x.odds(1, 1, 8, 6));
            refused(x, BAD, () -> x.odds(0, 2, 8, 6));
            refused(x, BAD, () -> x.odds(2, 0, 8, 6));
            refused(x, BAD, () -> x.odds(-1, 0, 8, 6));
            refused(x, BAD, () -> x.odds(0, -1, 8, 6));
            refused(x, BAD, () -> x.odds(0, 1, -1, 6));
            refused(x, BAD, () -> x.odds(0, 1, 61, 6));
            refused(x, BAD, () -> x.odds(0, 1, MAX, 6));
            refused(x, BAD, () -> x.odds(0, 1, 8, -1));
            refused(x, BAD, () -> x.odds(0, 1, 8, 13));
            refused(x, BAD, () -> x.odds(0, 1, 8, MIN));
            refused(x, BAD, () -> x.odds(MAX, MIN, 8, 6));
        });
    }

    private static void promise32Alone() {
        of(32, "one alone tells what he TELLS (nobody QUARRELS, preaches then), nobody nothing: 1.", x -> {
            // both 6, the PREACHER alone 3, the TALKER alone 9
            bridgeOf(x, "h009p90t90", 2);
            share(x, x.odds(0, 1, 7, 3), 3, 16);
            share(x, x.odds(0, 1, 9, 3), 3, 16);
            share(x, x.odds(0, 1, 10, 3), 0, 1);
            share(x, x.odds(0, 1, 4, 3), 3, 4);
            share(x, x.odds(0, 1, 3, 3), 15, 16);
            share(x, x.odds(0, 1, 1, 3), 15, 16);
            share(x, x.odds(0, 1, 0, 3), 1, 1);
            // both nothing, one alone 1
            bridgeOf(x, "h009t10t10q01", 2);
            share(x, x.odds(0, 1, 1, 6), 1, 2);
            share(x, x.odds(0, 1, 1, 0), 0, 1);
            share(x, x.odds(0, 1, 1, 12), 0, 1);
            share(x, x.odds(0, 1, 2, 6), 0, 1);
            // nobody: half of what it was
            bridgeOf(x, "h150t90t90", 2);
            share(x, x.odds(0, 1, 7, 12), 1, 1);
            share(x, x.odds(0, 1, 8, 12), 0, 1);
        });
    }

    private static void promise33() {
        of(33, "The mean of that STRENGTH: 1.", x -> {
            bridgeOf(x, "h100t50t30q01", 2);
            share(x, x.mid(0, 1, 0), 10, 1);
            share(x, x.mid(0, 1, 12), 5, 1);
            // 5, 10, 8, 10
            share(x, x.mid(0, 1, 6), 33, 4);
            share(x, x.mid(1, 0, 4), 9, 1);
            share(x, x.mid(0, 1, 1), 157, 16);
            bridgeOf(x, "h009p90t90", 2);
            share(x, x.mid(0, 1, 3), 45, 8);
            bridgeOf(x, "h009t00t00", 2);
            share(x, x.mid(0, 1, 0), 0, 1);
            share(x, x.mid(0, 1, 12), 0, 1);
            due(x.count(2), 0);
            due(x.asked(), 0);
        });
        of(33, "BAD.", x -> {
            refused(x, BAD, () -> x.mid(0, 1, 0));
            bridgeOf(x, "h100t50t30", 2);
            share(x, x.mid(0, 1, 6), 9, 1);
            refused(x, BAD, () -> x.mid(0, 0, 6));
            refused(x, BAD, () -> x.mid(1, 1, 6));
            refused(x, BAD, () -> x.mid(0, 2, 6));
            refused(x, BAD, () -> x.mid(2, 0, 6));
            refused(x, BAD, () -> x.mid(-1, 0, 6));
            refused(x, BAD, () -> x.mid(0, -1, 6));
            refused(x, BAD, () -> x.mid(0, 1, -1));
            refused(x, BAD, () -> x.mid(0, 1, 13));
            refused(x, BAD, () -> x.mid(0, 1, MAX));
            refused(x, BAD, () -> x.mid(MIN, MAX, 6));
        });
    }

    private static void promise34() {
        of(34, "n (1 .. 20) DEEDS truly by LOTS of a seed:", x -> {
            bridgeOf(x, "h409t19t29t39", 3);
            due(x.lots(1, 1), x.count(3));
            due(x.count(2), 1);
            due(x.lots(20, 7), x.count(3));
            due(x.count(2), 21);
            due(x.undo(20), 1);
            due(x.undo(0), 20);
        });
        of(34, "a number comes from the one ahead by 48271 times it modulo 2147483647, "
                + "the first from the seed (1 .. 2147483646):", x -> {
            for (int seed : new int[] {1, 2, 48271, 44488, 1073741824, 2147483645, 2147483646}) {
                BridgeAwake all = ready("h409t19b29l39c49p59w69q01q23", 6);
                BridgeAwake single = ready("h409t19b29l39c49p59w69q01q23", 6);
                due(all.lots(20, seed), all.count(3));
                long number = seed;
                for (int k = 0; k < 20; k++) {
                    due(single.lots(1, (int) number), single.count(3));
                    number = number * 48271 % 2147483647;
                }
                due(all.digest(), single.digest());
                due(all.undo(10), 10);
                due(single.undo(10), 10);
                due(all.digest(), single.digest());
            }
            // 48271 times 2147483646 is 48271 less than 0: 2147435376, by 8 and modulo 30 a LOAD of 12
            bridgeOf(x, "h129t00t00", 2);
            due(x.lots(1, 2147483646), 12);
            due(x.count(5), 1);
            bridgeOf(x, "h119t00t00", 2);
            due(x.lots(1, 2147483646), 0);
            due(x.count(6), 1);
        });
        of(34, "if it modulo 4 is 0, a LOAD of it by 8, cut, modulo 30 is sent,", x -> {
            // 4: 193084, by 8 24135, 15
            bridgeOf(x, "h159t00t00", 2);
            due(x.lots(1, 4), 15);
            due(x.count(5), 1);
            due(x.count(1), 0);
            bridgeOf(x, "h149t00t00", 2);
            due(x.lots(1, 4), 0);
            due(x.count(6), 1);
            due(x.count(1), 0);
            // 2: 96542, modulo 4 it is 2
            due(x.lots(1, 2), 0);
            due(x.count(1), 1);
        });
    }

    private static void promise34Watches() {
        of(34, "else a WATCH of the one of number it by 8, cut, modulo how many there are, and of the one who is further "
                + "on than that one by 1 more than (it by 64, cut, modulo one less than how many there are), "
                + "from the last on to 0:", x -> {
            // 1: 48271; 6033 modulo 6 is 3; 754 modulo 5 is 4; 5 further on than 3 is 2
            bridgeOf(x, "h120t00t00t00t00t00t00", 6);
            due(x.lots(1, 1), 6);
            upNow(x, 0, 0, 1, 1, 0, 0);
            // 3: 144813; 18101 modulo 3 is 2; 2262 modulo 2 is 0; 1 further on than 2 is 0
            bridgeOf(x, "h120t00t00t00", 3);
            due(x.lots(1, 3), 6);
            upNow(x, 1, 0, 1);
            // 2: 96542; 12067 modulo 3 is 1; 1508 modulo 2 is 0; 2
            bridgeOf(x, "h120t00t00t00", 3);
            due(x.lots(1, 2), 6);
            upNow(x, 0, 1, 1);
            // of five: 6033 modulo 5 is 3; 754 modulo 4 is 2; 3 further on than 3 is 1
            bridgeOf(x, "h120t00t00t00t00t00", 5);
            due(x.lots(1, 1), 6);
            upNow(x, 0, 1, 0, 1, 0);
            // of two always both
            bridgeOf(x, "h120t00t00", 2);
            due(x.lots(1, 1), 6);
            due(x.lots(1, 2), 3);
            due(x.lots(1, 3), 1);
            upNow(x, 3, 3);
        });
        of(34, "the STRENGTH then.", x -> {
            bridgeOf(x, "h120t39t49", 2);
            due(x.lots(1, 1), 13);
            due(x.count(3), 13);
            bridgeOf(x, "h400t39t49", 2);
            due(x.load(60), 0);
            due(x.lots(1, 4), 0);
            due(x.lots(1, 2), 7);
        });
    }

    private static void upNow(BridgeAwake x, int... ups) {
        for (int i = 0; i < ups.length; i++) {
            told(x, x.one(i, 3), ups[i]);
        }
    }

    private static void promise34Refused() {
        of(34, "BAD; STATE: no PEOPLE;", x -> {
            refused(x, STATE, () -> x.lots(1, 1));
            refused(x, STATE, () -> x.lots(20, 2147483646));
            refused(x, BAD, () -> x.lots(0, 1));
            refused(x, BAD, () -> x.lots(1, 0));
            bridgeOf(x, "h409t00t00", 2);
            refused(x, BAD, () -> x.lots(0, 1));
            refused(x, BAD, () -> x.lots(21, 1));
            refused(x, BAD, () -> x.lots(-1, 1));
            refused(x, BAD, () -> x.lots(MAX, 1));
            refused(x, BAD, () -> x.lots(MIN, 1));
            refused(x, BAD, () -> x.lots(1, 0));
            refused(x, BAD, () -> x.lots(1, -1));
            refused(x, BAD, () -> x.lots(1, 2147483647));
            refused(x, BAD, () -> x.lots(1, MIN));
            due(x.lots(1, 2147483646), 40);
        });
        of(34, "FULL: with n more there would be more than 40 DEEDS.", x -> {
            bridgeOf(x, "h409t00t00", 2);
            loads(x, 21);
            refused(x, FULL, () -> x.lots(20, 1));
            due(x.undo(20), 1);
            due(x.lots(20, 1), x.count(3));
            due(x.count(2), 40);
            refused(x, FULL, () -> x.lots(1, 1));
            due(x.undo(39), 1);
            refused(x, FULL, () -> x.lots(2, 1));
            due(x.lots(1, 1), x.count(3));
            due(x.count(2), 40);
        });
        of(34, "(FULL last.)", x -> {
            bridgeOf(x, "h409t00t00", 2);
            loads(x, 40);
            refused(x, BAD, () -> x.lots(21, 1));
            refused(x, BAD, () -> x.lots(0, 1));
            refused(x, BAD, () -> x.lots(20, 0));
            refused(x, BAD, () -> x.lots(20, MAX));
            refused(x, FULL, () -> x.lots(20, 1));
            refused(x, FULL, () -> x.lots(1, 1));
        });
    }
}
