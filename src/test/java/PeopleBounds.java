/** Sentences about what PEOPLE and PAIRS tell: promises 12 to 14. */
final class PeopleBounds extends Bounds {
    static void all() {
        hours();
        talkers();
        lovers();
        preachersAndWidowers();
        aPair();
        promise12();
        promise13();
        promise13Others();
        promise13Refused();
        promise14();
    }

    private static void tells(BridgeAwake x, int i, int want) {
        told(x, x.one(i, 4), want);
    }

    private static void hours() {
        terms("12, 13", "HOUR h of the night is what 12 leaves over of the HOURS that passed.", x -> {
            bridgeOf(x, "h000l50t99t99", 3);
            int[] until = {8, 7, 6, 5, 4, 3, 2, 1};
            for (int hours = 0; hours <= 40; hours++) {
                due(x.count(1), hours);
                int h = hours % 12;
                tells(x, 0, h < 4 ? 7 : 5);
                due(x.mark(0, 2), h < 4 ? 0 : until[h - 4]);
                x.watch(1, 2);
            }
        });
    }

    private static void talkers() {
        terms("12", "One TELLS so much: a TALKER as LIVELY as one is, less 2 for each hour UP that is more than one "
                + "LASTS (0 at least);", x -> {
            bridgeOf(x, "h000t52t90t99t00", 4);
            int[] lasting2 = {5, 5, 5, 3, 1, 0, 0};
            int[] lasting0 = {9, 7, 5, 3, 1, 0, 0};
            for (int up = 0; up < 7; up++) {
                told(x, x.one(0, 3), up);
                tells(x, 0, lasting2[up]);
                tells(x, 1, lasting0[up]);
                tells(x, 3, 0);
                x.watch(0, 1);
            }
            due(x.undo(0), 7);
            watches(x, 9, 2, 3);
            tells(x, 2, 9);
            watches(x, 1, 2, 3);
            tells(x, 2, 7);
            watches(x, 3, 2, 3);
            tells(x, 2, 1);
            watches(x, 1, 2, 3);
            tells(x, 2, 0);
            watches(x, 16, 2, 3);
            tells(x, 2, 0);
        });
        terms("12", "a BORE half of that (cut);", x -> {
            bridgeOf(x, "h000b52b90b10b00", 4);
            int[] lasting2 = {2, 2, 2, 1, 0, 0};
            int[] lasting0 = {4, 3, 2, 1, 0, 0};
            for (int up = 0; up < 6; up++) {
                tells(x, 0, lasting2[up]);
                tells(x, 1, lasting0[up]);
                tells(x, 2, 0);
                tells(x, 3, 0);
                x.watch(0, 1);
            }
        });
    }

    private static void lovers() {
        terms("12", "a LOVER 2 more than a TALKER in HOURS below 4;", x -> {
            bridgeOf(x, "h000l59t99t99", 3);
            for (int hours = 0; hours <= 16; hours++) {
                tells(x, 0, hours % 12 < 4 ? 7 : 5);
                x.watch(1, 2);
            }
            BridgeAwake tired = ready("h000l10t99", 2);
            int[] want = {3, 2, 2, 2, 0, 0};
            for (int hours = 0; hours < 6; hours++) {
                tells(tired, 0, want[hours]);
                tired.watch(0, 1);
            }
        });
        terms("12", "a CHILD 3 more than a TALKER in HOURS below 3, else 0;", x -> {
            bridgeOf(x, "h000c59t99t99", 3);
            for (int hours = 0; hours <= 16; hours++) {
                tells(x, 0, hours % 12 < 3 ? 8 : 0);
                x.watch(1, 2);
            }
            BridgeAwake tired = ready("h000c10t99", 2);
            int[] want = {4, 3, 3, 0, 0};
            for (int hours = 0; hours < 5; hours++) {
                tells(tired, 0, want[hours]);
                tired.watch(0, 1);
            }
        });
    }

    private static void preachersAndWidowers() {
        terms("12", "a PREACHER 1 less than a BORE (0 at least);", x -> {
            bridgeOf(x, "h000p00p10p20p30p40p90", 6);
            int[] want = {0, 0, 0, 0, 1, 3};
            for (int i = 0; i < 6; i++) {
                tells(x, i, want[i]);
            }
            int[] tired = {3, 2, 1, 0, 0, 0};
            for (int up = 0; up < 6; up++) {
                tells(x, 5, tired[up]);
                x.watch(0, 5);
            }
        });
        terms("12", "a WIDOWER as a LOVER who was not UP at all.", x -> {
            bridgeOf(x, "h000w50t99", 2);
            for (int hours = 0; hours <= 16; hours++) {
                told(x, x.one(0, 3), hours);
                tells(x, 0, hours % 12 < 4 ? 7 : 5);
                x.watch(0, 1);
            }
            watches(x, 20, 0, 1);
            told(x, x.one(0, 3), 30);
            due(x.count(1), 37);
            tells(x, 0, 7);
            watches(x, 3, 0, 1);
            tells(x, 0, 5);
        });
    }

    private static void aPair() {
        terms("14", "A PAIR of two unlike ones tells the bridge what both TELL together, less 3, if they QUARREL, "
                + "half of it (cut) with a PREACHER or two (0 at least).", x -> {
            bridgeOf(x, "h000t19t29t19p59p99p99", 6);
            due(x.talk(0, 1), 3);
            due(x.talk(1, 3), 1);
            due(x.talk(0, 3), 1);
            due(x.talk(3, 4), 2);
            due(x.talk(4, 5), 3);
            due(x.talk(4, 1), 2);
            bridgeOf(x, "h000t19t29t19p59p99p99q01q02q13q45q35q04", 6);
            due(x.talk(0, 1), 0);
            due(x.talk(0, 2), 0);
            due(x.talk(1, 3), 0);
            due(x.talk(4, 5), 1);
            due(x.talk(3, 5), 0);
            due(x.talk(0, 4), 0);
            bridgeOf(x, "h000t29t29p99t99q01q23", 4);
            due(x.talk(0, 1), 1);
            due(x.talk(2, 3), 4);
            bridgeOf(x, "h000t00t00p00q01q02", 3);
            due(x.talk(0, 1), 0);
            due(x.talk(0, 2), 0);
            due(x.talk(1, 2), 0);
            refused(x, BAD, () -> x.talk(1, 1));
        });
    }

    private static void promise12() {
        of(12, "Of one of PEOPLE: 0 the KIND, 1 how LIVELY, 2 how long one LASTS, 3 how long UP, 4 what one TELLS now, "
                + "5 with whom one QUARRELS (bits), all told by asked(): 1.", x -> {
            bridgeOf(x, "h000t08b00l00c00p00w97q05q15q25q35q45", 6);
            watches(x, 2, 0, 5);
            int[] first = {0, 0, 8, 2, 0, 32};
            int[] last = {5, 9, 7, 2, 11, 31};
            for (int what = 0; what <= 5; what++) {
                told(x, x.one(0, what), first[what]);
                told(x, x.one(5, what), last[what]);
            }
            told(x, x.one(3, 5), 32);
            told(x, x.one(3, 3), 0);
            told(x, x.one(3, 4), 3);
        });
        of(12, "1. BAD.", x -> {
            refused(x, BAD, () -> x.one(0, 0));
            bridgeOf(x, "h000t12b34", 2);
            told(x, x.one(1, 1), 3);
            refused(x, BAD, () -> x.one(2, 0));
            refused(x, BAD, () -> x.one(-1, 0));
            refused(x, BAD, () -> x.one(MAX, 0));
            refused(x, BAD, () -> x.one(MIN, 0));
            refused(x, BAD, () -> x.one(0, 6));
            refused(x, BAD, () -> x.one(0, -1));
            refused(x, BAD, () -> x.one(0, MAX));
            refused(x, BAD, () -> x.one(0, MIN));
        });
    }

    private static void promise13() {
        of(13, "What one who IS of a KIND tells:", x -> {
            bridgeOf(x, "h000t11b11l11c11p11w11", 6);
            int[][] is = {{}, {1}, {2}, {3}, {1, 4}, {2, 5}};
            for (int i = 0; i < 6; i++) {
                int ones = 0;
                for (int kind = 1; kind <= 5; kind++) {
                    ones += x.mark(i, kind) >= 0 ? 1 << kind : 0;
                }
                int want = 0;
                for (int kind : is[i]) {
                    want += 1 << kind;
                }
                due(ones, want);
            }
        });
        of(13, "a BORE (PREACHER, too) how much less he TELLS now than a TALKER would,", x -> {
            bridgeOf(x, "h000b90b00b10p90p00p10", 6);
            int[] want = {5, 0, 1, 6, 0, 1};
            for (int i = 0; i < 6; i++) {
                due(x.mark(i, 1), want[i]);
            }
            x.watch(0, 3);
            // 7: a BORE 3, a PREACHER 2
            due(x.mark(0, 1), 4);
            due(x.mark(3, 1), 5);
            watches(x, 4, 0, 3);
            due(x.mark(0, 1), 0);
            due(x.mark(3, 1), 0);
        });
        of(13, "a LOVER (WIDOWER, too) in how many HOURS one below 4 comes (0: it is one),", x -> {
            bridgeOf(x, "h000l11w11t11", 3);
            int[] want = {0, 0, 0, 0, 8, 7, 6, 5, 4, 3, 2, 1, 0, 0, 0, 0, 8};
            for (int hours = 0; hours < want.length; hours++) {
                due(x.mark(0, 2), want[hours]);
                due(x.mark(1, 2), want[hours]);
                x.watch(0, 2);
            }
        });
        of(13, "a CHILD how many HOURS from now on are below 3 (0: this one is not),", x -> {
            bridgeOf(x, "h000c11t11", 2);
            int[] want = {3, 2, 1, 0, 0, 0, 0, 0, 0, 0, 0, 0, 3, 2, 1, 0};
            for (int hours = 0; hours < want.length; hours++) {
                due(x.mark(0, 3), want[hours]);
                x.watch(0, 1);
            }
        });
    }

    private static void promise13Others() {
        of(13, "a PREACHER in how many PAIRS with others half of something above 0 is told now,", x -> {
            // with 0: nothing; with 1 alone: something, though half of it, cut, is 0; who QUARREL: 3 - 3, 4 - 3
            bridgeOf(x, "h000p09t09t19t39t49q03q04", 5);
            due(x.mark(0, 4), 2);
            bridgeOf(x, "h000p00t00", 2);
            due(x.mark(0, 4), 0);
            bridgeOf(x, "h000p00t10", 2);
            due(x.mark(0, 4), 1);
            bridgeOf(x, "h000p40p40p00p00p00p40", 6);
            due(x.mark(0, 4), 5);
            due(x.mark(2, 4), 3);
            bridgeOf(x, "h000p90t10t10", 3);
            due(x.mark(0, 4), 2);
            watches(x, 5, 0, 1);
            // 0 and 1 TELL nothing any more, 2 does
            due(x.mark(0, 4), 1);
        });
        of(13, "a WIDOWER how much more he TELLS now than a LOVER would.", x -> {
            bridgeOf(x, "h000w50t99w19", 3);
            // LASTS 0, LIVELY 5, so a LOVER would tell 5, 3, 1, 0, 0 and 2 more in HOURS below 4
            int[] want = {0, 2, 4, 5, 5, 5};
            for (int up = 0; up < want.length; up++) {
                due(x.mark(0, 5), want[up]);
                due(x.mark(2, 5), 0);
                x.watch(0, 1);
            }
            watches(x, 30, 0, 1);
            due(x.mark(0, 5), 5);
        });
    }

    private static void promise13Refused() {
        of(13, "BAD: also KIND 0;", x -> {
            refused(x, BAD, () -> x.mark(0, 1));
            bridgeOf(x, "h000t11b11", 2);
            refused(x, BAD, () -> x.mark(0, 0));
            refused(x, BAD, () -> x.mark(1, 0));
            refused(x, BAD, () -> x.mark(1, -1));
            refused(x, BAD, () -> x.mark(1, 6));
            refused(x, BAD, () -> x.mark(1, MAX));
            refused(x, BAD, () -> x.mark(1, MIN));
            refused(x, BAD, () -> x.mark(2, 1));
            refused(x, BAD, () -> x.mark(-1, 1));
            refused(x, BAD, () -> x.mark(MAX, 1));
            refused(x, BAD, () -> x.mark(MIN, 1));
        });
        of(13, "UNLIKE.", x -> {
            bridgeOf(x, "h000t11b11l11c11p11w11", 6);
            int[][] unlike = {{0, 1}, {0, 5}, {1, 4}, {1, 2}, {2, 5}, {2, 1}, {3, 2}, {3, 4}, {4, 2}, {4, 5}, {5, 1},
                {5, 3}, {5, 4}};
            for (int[] both : unlike) {
                finds(x, UNLIKE, () -> x.mark(both[0], both[1]));
            }
        });
    }

    private static void promise14() {
        of(14, "What a PAIR would tell the bridge now.", x -> {
            bridgeOf(x, "h409l50t50p99", 3);
            aside(x, 12, () -> x.talk(0, 1));
            aside(x, 12, () -> x.talk(1, 0));
            aside(x, 5, () -> x.talk(0, 2));
            watches(x, 4, 0, 1);
            // both LASTED 0, so 5 - 8: nothing; HOUR 4 is none for LOVERS
            aside(x, 0, () -> x.talk(0, 1));
            aside(x, 1, () -> x.talk(0, 2));
            due(x.coffee(0), 8);
            aside(x, 5, () -> x.talk(0, 1));
        });
        of(14, "BAD: also alike.", x -> {
            refused(x, BAD, () -> x.talk(0, 1));
            bridgeOf(x, "h409l50t50p99", 3);
            for (int i = 0; i < 3; i++) {
                int alike = i;
                refused(x, BAD, () -> x.talk(alike, alike));
            }
            refused(x, BAD, () -> x.talk(0, 3));
            refused(x, BAD, () -> x.talk(3, 0));
            refused(x, BAD, () -> x.talk(-1, 0));
            refused(x, BAD, () -> x.talk(0, -1));
            refused(x, BAD, () -> x.talk(MAX, MIN));
            refused(x, BAD, () -> x.talk(3, 3));
        });
    }
}
