import java.math.BigInteger;
import java.util.ArrayList;
import java.util.List;

/** Sentences about answers, findings, and what is told: promises 35 to 41. */
final class ToldBounds extends Bounds {
    static void all() {
        calls();
        order();
        refusals();
        noneAndNothing();
        findingsTold();
        numbersTold();
        promise35();
        promise36();
        promise38();
        promise39();
        promise41();
        promise41All();
    }

    private static void calls() {
        intro("1 to 41", "An object is used for at most 512 calls after it has been made; "
                + "what later calls answer is free.", x -> {
            due(x.row(5, 40), 40);
            for (int k = 0; k < 510; k++) {
                told512(x, k);
            }
            due(x.at(5, 29), 1);
            due(x.asked(), 509);
        });
    }

    private static void told512(BridgeAwake x, int k) {
        due(x.lay(5, k % 40, k), 1);
    }

    private static void order() {
        terms("2 to 41", "Refused is, the first of these that fits, in this order:", x -> {
            refused(x, BAD, () -> x.row(6, -1));
            refused(x, BAD, () -> x.load(61));
            refused(x, STATE, () -> x.through(0));
            refused(x, STATE, () -> x.bear(0));
            refused(x, STATE, () -> x.sagged(0));
            bridgeOf(x, "h000t12b34", 2);
            refused(x, STATE, () -> x.coffee(0));
            loads(x, 40);
            refused(x, BAD, () -> x.load(61));
            refused(x, BAD, () -> x.lots(21, 1));
        });
        terms("2 to 40", "BAD -1 (a number that is none, or not as told),", x -> {
            due(BridgeAwake.BAD, -1);
            due(x.count(11), -1);
            due(x.findings(0), -1);
            due(x.row(0, 41), -1);
            bridgeOf(x, "h000t12b34", 2);
            due(x.watch(0, 2), -1);
            due(x.watch(1, 1), -1);
        });
        terms("15, 16, 17, 34", "FULL -2,", x -> {
            due(BridgeAwake.FULL, -2);
            bridgeOf(x, "h001t12b34", 2);
            x.watch(0, 1);
            loads(x, 39);
            due(x.watch(0, 1), -2);
            due(x.load(0), -2);
            due(x.coffee(0), -2);
            due(x.lots(1, 1), -2);
        });
        terms("11, 16, 17, 19, 21 to 26, 30, 31, 34", "STATE -4 (not now),", x -> {
            due(BridgeAwake.STATE, -4);
            int[] answers = {x.load(0), x.keep(0), x.best(1, 0), x.through(0), x.when(0, 0), x.bear(0), x.sagged(0),
                x.sure(0), x.pairs(0), x.duel(0), x.lots(1, 1)};
            for (int answer : answers) {
                due(answer, -4);
            }
            due(x.text(0, 3), 3);
            due(x.bridge(0), -4);
            bridgeOf(x, "h001t12b34", 2);
            due(x.coffee(0), -4);
        });
        terms("17", "SPENT -6 (more than told),", x -> {
            due(BridgeAwake.SPENT, -6);
            bridgeOf(x, "h000t12b34", 2);
            x.watch(0, 1);
            due(x.coffee(0), -6);
        });
        terms("2 to 13, 20 to 29", "FINDING -3 (finding() tells which),", x -> {
            due(BridgeAwake.FINDING, -3);
            due(x.row(0, -1), -3);
            due(x.finding(), 5);
            due(x.on(0), -3);
            due(x.finding(), 1);
        });
        terms("11, 15, 16, 17, 34", "unless a call says so otherwise.", x -> {
            // FINDING ahead of STATE
            finds(x, NOTHING, () -> x.bridge(0));
            bridgeOf(x, "h000t12b34b56", 3);
            x.watch(0, 1);
            loads(x, 39);
            // STATE and SPENT ahead of FULL
            refused(x, STATE, () -> x.coffee(2));
            refused(x, SPENT, () -> x.coffee(1));
        });
    }

    /** An object of which each call can be refused in each way. */
    private static BridgeAwake rich() {
        BridgeAwake x = ready("h101t90b81l72", 3);
        x.watch(0, 1);
        due(x.keep(1), 1);
        x.watch(0, 2);
        due(x.load(1), 1);
        rowOf(x, 0, 7, -8);
        rowOf(x, 1, 0, 0, 0, 61);
        rowOf(x, 2, 61);
        due(x.row(3, 0), 0);
        told(x, x.at(0, 0), 7);
        share(x, x.odds(1, 2, 60, 5), 0, 1);
        share(x, x.mid(1, 2, 12), x.count(3) / 2, 1);
        return x;
    }

    private static void refusals() {
        terms("2 to 40", "What is refused changes nothing but finding(), findings().", none -> {
            BridgeAwake a = rich();
            refused(a, BAD, () -> a.row(0, 41));
            finds(a, SIZE, () -> a.row(0, -1));
            finds(a, BEYOND, () -> a.lay(0, 2, 5));
            finds(a, BEYOND, () -> a.at(0, 2));
            finds(a, NOTHING, () -> a.tear(4));
            finds(a, BEYOND, () -> a.copy(1, 0, 0, 0, 3));
            finds(a, NOUGHT, () -> a.mean(3));
            finds(a, SIZE, () -> a.text(0, -1));
            finds(a, BEYOND, () -> a.put(0, 13, 5));
            finds(a, NOTHING, () -> a.fault(1));
            BridgeAwake b = rich();
            finds(b, NOTHING, () -> b.bridge(1));
            refused(b, BAD, () -> b.one(3, 0));
            finds(b, UNLIKE, () -> b.mark(0, 1));
            refused(b, BAD, () -> b.talk(0, 0));
            refused(b, BAD, () -> b.watch(0, 3));
            refused(b, BAD, () -> b.load(61));
            refused(b, STATE, () -> b.coffee(1));
            refused(b, BAD, () -> b.undo(4));
            refused(b, BAD, () -> b.keep(3));
            finds(b, NOTHING, () -> b.on(0));
            BridgeAwake c = rich();
            refused(c, BAD, () -> c.best(4, 0));
            finds(c, UNLIKE, () -> c.through(0));
            finds(c, UNLIKE, () -> c.when(0, 0));
            finds(c, UNLIKE, () -> c.bear(2));
            finds(c, SIZE, () -> c.sagged(1));
            finds(c, UNLIKE, () -> c.sure(2));
            finds(c, SIZE, () -> c.lasts(0, 0));
            finds(c, SIZE, () -> c.kinds(0, 1));
            finds(c, NOTHING, () -> c.test(0, 4));
            BridgeAwake d = rich();
            refused(d, BAD, () -> d.pairs(6));
            refused(d, BAD, () -> d.duel(4));
            refused(d, BAD, () -> d.odds(0, 0, 0, 0));
            refused(d, BAD, () -> d.mid(0, 1, 13));
            refused(d, BAD, () -> d.lots(1, 0));
            refused(d, BAD, () -> d.count(11));
            refused(d, BAD, () -> d.findings(6));
            rowOf(d, 2, 60);
            finds(d, NOUGHT, () -> d.sure(2));
        });
    }

    private static void noneAndNothing() {
        terms("10, 23, 24, 29", "NONE -9 (a ROW that something was to come to stays as it is then).", x -> {
            due(BridgeAwake.NONE, -9);
            bridgeOf(x, "h000t12b34", 2);
            rowOf(x, 0, 1);
            rowOf(x, 1, 60, 60, 60);
            rowOf(x, 2, 30, 11, 15);
            aside(x, -9, () -> x.fault(0));
            aside(x, -9, () -> x.when(0, 60));
            aside(x, -9, () -> x.bear(1));
            aside(x, -9, () -> x.test(0, 2));
            isRow(x, 0, 1);
            isRow(x, 1, 60, 60, 60);
            isRow(x, 2, 30, 11, 15);
        });
    }

    private static void findingsTold() {
        terms("3 to 11, 20, 22 to 29", "FINDINGS: 1 NOTHING (a ROW, a TEXT, a kept BRIDGE that is missing),", x -> {
            bridgeOf(x, "h000t12b34", 2);
            finds(x, 1, () -> x.at(0, 0));
            finds(x, 1, () -> x.copy(0, 0, 0, 0, 0));
            finds(x, 1, () -> x.mean(5));
            finds(x, 1, () -> x.through(0));
            finds(x, 1, () -> x.when(0, 0));
            finds(x, 1, () -> x.bear(0));
            finds(x, 1, () -> x.sagged(0));
            finds(x, 1, () -> x.sure(0));
            finds(x, 1, () -> x.lasts(0, 0));
            finds(x, 1, () -> x.kinds(0, 0));
            finds(x, 1, () -> x.test(0, 0));
            finds(x, 1, () -> x.put(1, 0, 0));
            finds(x, 1, () -> x.fault(1));
            finds(x, 1, () -> x.bridge(1));
            finds(x, 1, () -> x.on(0));
        });
        terms("3, 4, 6, 9", "2 BEYOND (a place that there is not),", x -> {
            due(x.row(0, 0), 0);
            due(x.text(0, 0), 0);
            finds(x, 2, () -> x.lay(0, 0, 1));
            finds(x, 2, () -> x.at(0, 0));
            finds(x, 2, () -> x.copy(0, 0, 0, 0, 1));
            finds(x, 2, () -> x.put(0, 0, 1));
        });
        terms("13, 22 to 29", "3 UNLIKE (one of another KIND; a number that is none),", x -> {
            bridgeOf(x, "h000t12b34", 2);
            finds(x, 3, () -> x.mark(0, 1));
            rowOf(x, 0, 99, 99, 99);
            finds(x, 3, () -> x.through(0));
            finds(x, 3, () -> x.when(0, 0));
            finds(x, 3, () -> x.bear(0));
            finds(x, 3, () -> x.sagged(0));
            finds(x, 3, () -> x.sure(0));
            finds(x, 3, () -> x.lasts(0, 0));
            finds(x, 3, () -> x.kinds(0, 0));
            finds(x, 3, () -> x.test(0, 0));
        });
        terms("7, 26", "4 NOUGHT (shared among none; nothing fits),", x -> {
            bridgeOf(x, "h000t12b34", 2);
            due(x.row(0, 0), 0);
            finds(x, 4, () -> x.mean(0));
            rowOf(x, 0, 60);
            finds(x, 4, () -> x.sure(0));
        });
        terms("2, 6, 8, 22 to 29", "5 SIZE (fewer than none; not as many as due).", x -> {
            bridgeOf(x, "h000t12b34", 2);
            finds(x, 5, () -> x.row(0, -1));
            finds(x, 5, () -> x.text(0, -1));
            finds(x, 5, () -> x.copy(0, 0, 0, 0, -1));
            due(x.row(0, 40), 40);
            finds(x, 5, () -> x.through(0));
            finds(x, 5, () -> x.when(0, 0));
            finds(x, 5, () -> x.bear(0));
            finds(x, 5, () -> x.sagged(0));
            finds(x, 5, () -> x.sure(0));
            finds(x, 5, () -> x.lasts(0, 0));
            finds(x, 5, () -> x.kinds(0, 0));
            finds(x, 5, () -> x.test(0, 0));
        });
    }

    private static void numbersTold() {
        terms("25, 32, 33, 36, 37", "Chances, means, numbers of ways are told by upper(), lower(), in lowest terms, "
                + "the lower number above 0 (0 by 1).", x -> {
            bridgeOf(x, "h009t10t10q01", 2);
            share(x, x.odds(0, 1, 1, 6), 1, 2);
            share(x, x.odds(0, 1, 2, 6), 0, 1);
            share(x, x.odds(0, 1, 0, 6), 1, 1);
            share(x, x.mid(0, 1, 6), 1, 2);
            share(x, x.mid(0, 1, 12), 0, 1);
            rowOf(x, 0, 0, 0);
            share(x, x.sagged(0), 1, 1);
            rowOf(x, 0, 60);
            share(x, x.sagged(0), 0, 1);
            // 71 of 72: the lower number is not 144
            bridgeOf(x, "h009t10t10", 2);
            share(x, x.odds(0, 1, 1, 2), 35, 36);
            share(x, x.odds(0, 1, 2, 2), 25, 36);
            share(x, x.mid(0, 1, 2), 5, 3);
        });
        terms("12, 24, 26, 27, 28", "Sets (of PEOPLE, KINDS, numbers 0 .. 9) are told by bits.", x -> {
            bridgeOf(x, "h000t00t00t00t00t90t90q01q02q45", 6);
            told(x, x.one(0, 5), 2 + 4);
            told(x, x.one(4, 5), 32);
            told(x, x.one(3, 5), 0);
            rowOf(x, 0, 15);
            due(x.bear(0), 2);
            due(x.asked(), 16 + 32);
            due(x.sure(0), 16 + 32);
            due(x.asked(), 1 + 2 + 4 + 8);
            due(x.row(0, 0), 0);
            due(x.lasts(0, 0), 1023);
            due(x.kinds(0, 0), 63);
            rowOf(x, 0, 10, 5, 7);
            due(x.lasts(4, 0), 512);
            rowOf(x, 0, 10, 5, 9);
            due(x.kinds(4, 0), 32);
        });
    }

    private static void promise35() {
        of(35, "What the latest lay(), at(), mean(), one(), through(), bear(), sagged(), sure(), test() that was not "
                + "refused (nor answered NONE) told; 0 before.", x -> {
            due(x.asked(), 0);
            due(x.at(0, 0), FINDING);
            due(x.asked(), 0);
            bridgeOf(x, "h100t50t30", 2);
            due(x.asked(), 0);
            rowOf(x, 0, 7);
            due(x.asked(), 0);
            told(x, x.lay(0, 0, 3), 7);
            told(x, x.at(0, 0), 3);
            told(x, x.lay(0, 0, 1), 3);
            told(x, x.mean(0), 1);
            told(x, x.one(0, 1), 5);
            due(x.through(0), 13);
            due(x.asked(), 10);
            rowOf(x, 1, 13);
            due(x.bear(1), 2);
            due(x.asked(), 3);
            told(x, x.sagged(1), 1);
            due(x.sure(1), 3);
            due(x.asked(), 0);
            rowOf(x, 2, 60);
            told(x, x.sagged(2), NONE);
            aside(x, NONE, () -> x.bear(2));
            due(x.row(3, 0), 0);
            due(x.test(0, 3), 0);
            due(x.asked(), 2);
            // none of these tells by asked(), no one refused does
            x.talk(0, 1);
            x.mark(0, 1);
            x.when(0, 3);
            x.best(1, 4);
            x.pairs(5);
            x.lasts(0, 3);
            x.kinds(0, 3);
            x.duel(2);
            x.odds(0, 1, 3, 3);
            x.mid(0, 1, 3);
            x.put(0, 0, 104);
            x.copy(0, 0, 1, 0, 1);
            x.watch(0, 1);
            x.coffee(0);
            x.load(3);
            x.lots(1, 1);
            x.undo(0);
            x.keep(0);
            x.on(0);
            x.fault(0);
            x.bridge(0);
            x.count(3);
            x.finding();
            x.findings(1);
            x.digest();
            x.row(1, 2);
            x.text(1, 2);
            x.tear(5);
            x.lay(0, 9, 9);
            x.at(0, -1);
            x.mean(3);
            x.one(0, 6);
            x.through(2);
            x.bear(3);
            x.sagged(3);
            x.sure(2);
            x.test(2, 0);
            rowOf(x, 2, 30, 11, 15);
            told(x, x.at(2, 1), 11);
            aside(x, NONE, () -> x.test(0, 2));
            due(x.asked(), 11);
        });
    }

    private static void promise36() {
        of(36, "The upper number that was told last; 0 before.", x -> {
            due(x.upper(), 0);
            bridgeOf(x, "h100t50t30", 2);
            due(x.odds(0, 0, 6, 6), BAD);
            due(x.upper(), 0);
            share(x, x.odds(0, 1, 6, 6), 3, 4);
            x.odds(0, 1, 6, 13);
            x.mid(0, 2, 6);
            x.digest();
            x.watch(0, 1);
            x.undo(0);
            x.bridge(0);
            due(x.upper(), 3);
            rowOf(x, 0, 13);
            due(x.sure(0), 3);
            due(x.upper(), 3);
            share(x, x.sagged(0), 1, 1);
            share(x, x.mid(0, 1, 6), 9, 1);
        });
        of(37, "Its lower number; 1 before.", x -> {
            due(x.lower(), 1);
            bridgeOf(x, "h100t50t30", 2);
            due(x.odds(0, 0, 6, 6), BAD);
            due(x.lower(), 1);
            share(x, x.odds(0, 1, 6, 6), 3, 4);
            due(x.mid(0, 0, 6), BAD);
            due(x.lower(), 4);
            rowOf(x, 0, 60);
            share(x, x.sagged(0), 0, 1);
        });
    }

    private static void promise38() {
        of(38, "0 PEOPLE, 1 HOURS that passed, 2 DEEDS, 3 STRENGTH, 4 COFFEE, 5 LOADS that crossed, 6 LOADS that FELL, "
                + "7 LOVERS (WIDOWERS, too), 8 ROWS, 9 TEXTS that are there, 10 kept BRIDGES.", x -> {
            counts(x, 0, 0, 0, 0, 0, 0, 0, 0, 0, 0, 0);
            bridgeOf(x, "h309l52w34t11l11c11w11", 6);
            counts(x, 6, 0, 0, 30, 9, 0, 0, 4, 0, 1, 0);
            x.watch(0, 2);
            x.watch(0, 1);
            due(x.coffee(0), 8);
            due(x.load(0), 1);
            due(x.load(1), 1);
            due(x.load(60), 0);
            x.watch(1, 2);
            // a WIDOWER's 3 + 2, a TALKER's 1
            due(x.row(4, 3), 3);
            due(x.row(5, 0), 0);
            due(x.text(3, 0), 0);
            due(x.keep(1), 7);
            due(x.keep(2), 7);
            counts(x, 6, 3, 7, 6, 8, 2, 1, 4, 2, 2, 2);
            due(x.tear(5), 1);
            due(x.undo(0), 7);
            counts(x, 6, 0, 0, 30, 9, 0, 0, 4, 1, 2, 2);
            due(x.on(2), 7);
            counts(x, 6, 3, 7, 6, 8, 2, 1, 4, 1, 2, 2);
            for (int r = 0; r < 6; r++) {
                due(x.row(r, r), r);
            }
            for (int t = 0; t < 4; t++) {
                due(x.text(t, t), t);
            }
            due(x.keep(0), 7);
            counts(x, 6, 3, 7, 6, 8, 2, 1, 4, 6, 4, 3);
            watches(x, 33, 0, 1);
            due(x.count(1), 36);
            due(x.count(2), 40);
        });
        of(38, "BAD.", x -> {
            refused(x, BAD, () -> x.count(-1));
            refused(x, BAD, () -> x.count(11));
            refused(x, BAD, () -> x.count(MAX));
            refused(x, BAD, () -> x.count(MIN));
            due(x.count(0), 0);
            due(x.count(10), 0);
        });
    }

    private static void counts(BridgeAwake x, int... want) {
        for (int what = 0; what < want.length; what++) {
            due(x.count(what), want[what]);
        }
    }

    private static void promise39() {
        of(39, "The latest FINDING (0 before any).", x -> {
            due(x.finding(), 0);
            due(x.row(6, 0), BAD);
            due(x.load(0), STATE);
            due(x.finding(), 0);
            due(x.row(0, -1), FINDING);
            due(x.finding(), SIZE);
            due(x.at(0, 0), FINDING);
            due(x.finding(), NOTHING);
            due(x.row(0, 0), 0);
            due(x.at(0, 0), FINDING);
            due(x.finding(), BEYOND);
            due(x.mean(0), FINDING);
            due(x.finding(), NOUGHT);
            bridgeOf(x, "h100t50t30", 2);
            due(x.watch(0, 0), BAD);
            due(x.coffee(0), STATE);
            due(x.finding(), NOUGHT);
            due(x.mark(0, 1), FINDING);
            due(x.finding(), UNLIKE);
        });
        of(40, "How often a FINDING (1 .. 5) was answered.", x -> {
            for (int f = 1; f <= 5; f++) {
                due(x.findings(f), 0);
            }
            x.at(0, 0);
            x.at(0, 0);
            x.fault(0);
            x.row(0, -1);
            x.row(0, 0);
            x.mean(0);
            x.at(0, 0);
            x.at(0, 1);
            x.at(9, 0);
            x.load(0);
            bridgeOf(x, "h100t50t30", 2);
            x.mark(0, 1);
            int[] want = {3, 2, 1, 1, 1};
            for (int f = 1; f <= 5; f++) {
                due(x.findings(f), want[f - 1]);
            }
            due(x.bridge(0), 2);
            due(x.findings(1), 3);
        });
        of(40, "BAD.", x -> {
            x.at(0, 0);
            refused(x, BAD, () -> x.findings(0));
            refused(x, BAD, () -> x.findings(6));
            refused(x, BAD, () -> x.findings(-1));
            refused(x, BAD, () -> x.findings(MAX));
            refused(x, BAD, () -> x.findings(MIN));
        });
    }

    private static long sum(long... values) {
        BigInteger h = BigInteger.valueOf(17);
        for (long value : values) {
            h = h.multiply(BigInteger.valueOf(31)).add(BigInteger.valueOf(value));
        }
        return h.longValue();
    }

    private static void promise41() {
        of(41, "h = 17; then h = 31 h + v for each v", x -> {
            due(x.digest(), sum(0, 0, 0, 0, 0, 0, 0, 0, 0, 0, 0, -1, -1, -1, -1, -1, -1, -1, -1, -1, -1, -1, -1, -1));
            due(x.row(0, 0), 0);
            due(x.digest(), sum(0, 0, 0, 0, 0, 0, 0, 0, 1, 0, 0, -1, -1, -1, 0, -1, -1, -1, -1, -1, -1, -1, -1, -1));
            rowOf(x, 5, MIN, MAX);
            due(x.digest(), sum(0, 0, 0, 0, 0, 0, 0, 0, 2, 0, 0, -1, -1, -1, 0, -1, -1, -1, -1, 2, MIN, MAX,
                    -1, -1, -1, -1));
        });
        of(41, "(of a call that tells by asked(): what it tells, not the 1 that it answers; asked() stays):", x -> {
            bridgeOf(x, "h109t50l30q01", 2);
            rowOf(x, 0, 7);
            told(x, x.at(0, 0), 7);
            due(x.tear(0), 1);
            due(x.digest(), sum(2, 0, 0, 10, 9, 0, 0, 1, 0, 1, 0,
                    0, 5, 0, 0, 5, 2, 2, 3, 0, 0, 5, 1, -1, -1, -1, -1, -1, -1, -1, -1, -1,
                    13, 'h', '1', '0', '9', 't', '5', '0', 'l', '3', '0', 'q', '0', '1', -1, -1, -1));
            due(x.asked(), 7);
            due(x.upper(), 0);
            due(x.finding(), 0);
        });
        of(41, "count() 0 to 10;", x -> {
            long before = x.digest();
            due(x.text(3, 0), 0);
            due(x.digest() == before ? 1 : 0, 0);
            due(x.digest(), sum(0, 0, 0, 0, 0, 0, 0, 0, 0, 1, 0, -1, -1, -1, -1, -1, -1, -1, -1, -1, -1, -1, -1, 0));
        });
        of(41, "of each of PEOPLE one() 0 to 5;", x -> {
            bridgeOf(x, "h001w97p00q01", 2);
            x.watch(0, 1);
            due(x.text(0, 0), 0);
            due(x.digest(), sum(2, 1, 1, 4, 1, 0, 0, 1, 0, 1, 0,
                    5, 9, 7, 1, 11, 2, 4, 0, 0, 1, 0, 1, -1, -1, -1, -1, -1, -1, -1, -1, -1, 0, -1, -1, -1));
        });
    }

    private static void promise41All() {
        of(41, "of each kept BRIDGE how many DEEDS (-1: missing);", x -> {
            bridgeOf(x, "h001t00t00", 2);
            due(x.text(0, 0), 0);
            due(x.keep(2), 0);
            loads(x, 2);
            due(x.keep(0), 2);
            due(x.digest(), sum(2, 0, 2, 0, 1, 2, 0, 0, 0, 1, 2, 0, 0, 0, 0, 0, 0, 0, 0, 0, 0, 0, 0,
                    2, -1, 0, -1, -1, -1, -1, -1, -1, 0, -1, -1, -1));
        });
        of(41, "of each ROW its size (-1: missing) and places, of each TEXT likewise.", x -> {
            List<Long> values = new ArrayList<>(List.of(0L, 0L, 0L, 0L, 0L, 0L, 0L, 0L, 3L, 2L, 0L, -1L, -1L, -1L));
            due(x.row(0, 40), 40);
            values.add(40L);
            for (int i = 0; i < 40; i++) {
                int v = (i % 2 == 0 ? MAX : MIN) + 0;
                due(x.lay(0, i, v), 1);
                values.add((long) v);
            }
            due(x.row(2, 0), 0);
            rowOf(x, 5, 6, -6);
            values.addAll(List.of(-1L, 0L, -1L, -1L, 2L, 6L, -6L, -1L));
            due(x.text(1, 60), 60);
            values.add(60L);
            for (int i = 0; i < 60; i++) {
                due(x.put(1, i, 100 * i), 1032);
                values.add((long) (byte) (100 * i));
            }
            due(x.text(3, 1), 1);
            values.addAll(List.of(-1L, 1L, 32L));
            due(x.digest(), sum(values.stream().mapToLong(Long::longValue).toArray()));
            due(x.tear(0), 1);
            due(x.row(0, 0), 0);
            due(x.tear(5), 1);
            due(x.text(1, 0), 0);
            due(x.digest(), sum(0, 0, 0, 0, 0, 0, 0, 0, 2, 2, 0, -1, -1, -1, 0, -1, 0, -1, -1, -1, -1, 0, -1, 1, 32));
        });
    }
}
