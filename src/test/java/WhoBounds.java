/** Sentences about who one is: promises 27 to 29. */
final class WhoBounds extends Bounds {
    static void all() {
        triples();
        promise27();
        promise27Refused();
        promise28();
        promise28Refused();
        promise29();
        promise29Later();
        promise29Refused();
    }

    private static void triples() {
        terms("27, 28, 29", "5 who one is (a ROW of triples: how long one was UP 0 .. 30, the HOUR 0 .. 11, "
                + "what one TOLD 0 .. 15).", x -> {
            bridgeOf(x, "h100t62b62", 2);
            rowOf(x, 0, 30, 11, 15);
            aside(x, 0, () -> x.lasts(0, 0));
            aside(x, 0, () -> x.kinds(0, 0));
            aside(x, NONE, () -> x.test(0, 0));
            rowOf(x, 0, 0, 0, 0);
            aside(x, 0, () -> x.lasts(0, 0));
            for (int[] places : new int[][] {{31, 0, 0}, {-1, 0, 0}, {0, 12, 0}, {0, -1, 0}, {0, 0, 16}, {0, 0, -1},
                {MAX, 0, 0}, {0, MIN, 0}, {0, 0, MAX}, {0, 0, 6, 31, 0, 6}, {0, 0, 6, 0, 12, 6}, {0, 0, 6, 0, 0, 16}}) {
                BridgeAwake y = ready("h100t62b62", 2);
                rowOf(y, 5, places);
                finds(y, UNLIKE, () -> y.lasts(0, 5));
                finds(y, UNLIKE, () -> y.kinds(0, 5));
                finds(y, UNLIKE, () -> y.test(0, 5));
            }
        });
    }

    private static void last(BridgeAwake x, int i, int bits, int... places) {
        rowOf(x, 0, places);
        due(x.lasts(i, 0), bits);
    }

    private static void promise27() {
        of(27, "How long one LASTS (bits 0 .. 9) by these, as LIVELY, of the KIND as one is.", x -> {
            bridgeOf(x, "h100t63b63l63c63p73w63", 6);
            // 6 less 2 for each hour of 1, 5, 10, 30 beyond as long as one LASTS
            last(x, 0, 1, 1, 0, 4);
            last(x, 0, 1022, 1, 0, 6);
            last(x, 0, 8, 5, 7, 2);
            last(x, 0, 512, 10, 0, 4);
            last(x, 0, 1023, 30, 11, 0);
            last(x, 0, 1023, 0, 11, 6);
            last(x, 0, 0, 0, 11, 5);
            last(x, 0, 0, 0, 0, 8);
            last(x, 0, 4, 1, 0, 6, 3, 0, 4);
            last(x, 0, 0, 1, 0, 6, 3, 0, 5);
            last(x, 1, 16, 5, 7, 2);
            last(x, 2, 8, 5, 7, 2);
            last(x, 2, 8, 5, 3, 4);
            last(x, 3, 8, 5, 2, 5);
            last(x, 3, 1023, 5, 3, 0);
            last(x, 4, 992, 5, 7, 2);
            last(x, 5, 0, 5, 7, 2);
            last(x, 5, 1023, 30, 3, 8);
            last(x, 5, 1023, 30, 4, 6);
            int[] many = new int[39];
            for (int k = 0; k < 39; k += 3) {
                many[k] = 5;
                many[k + 1] = 7;
                many[k + 2] = 2;
            }
            last(x, 0, 8, many);
            many[38] = 4;
            last(x, 0, 0, many);
        });
        of(27, "SIZE: not by triples (a ROW without places is well);", x -> {
            bridgeOf(x, "h100t63b63", 2);
            due(x.row(0, 0), 0);
            aside(x, 1023, () -> x.lasts(0, 0));
            aside(x, 1023, () -> x.lasts(1, 0));
            for (int size : new int[] {1, 2, 4, 5, 38, 40}) {
                due(x.row(0, size), size);
                finds(x, SIZE, () -> x.lasts(0, 0));
            }
            due(x.row(0, 3), 3);
            due(x.lasts(0, 0), 0);
            due(x.row(0, 39), 39);
            due(x.lasts(0, 0), 0);
        });
    }

    private static void promise27Refused() {
        of(27, "BAD; NOTHING;", x -> {
            refused(x, BAD, () -> x.lasts(0, 0));
            bridgeOf(x, "h100t63b63", 2);
            refused(x, BAD, () -> x.lasts(2, 0));
            refused(x, BAD, () -> x.lasts(-1, 0));
            refused(x, BAD, () -> x.lasts(0, 6));
            refused(x, BAD, () -> x.lasts(0, -1));
            refused(x, BAD, () -> x.lasts(MAX, 0));
            refused(x, BAD, () -> x.lasts(0, MIN));
            finds(x, NOTHING, () -> x.lasts(0, 0));
            finds(x, NOTHING, () -> x.lasts(1, 5));
        });
        of(27, "UNLIKE. (In this order.)", x -> {
            rowOf(x, 0, 99);
            refused(x, BAD, () -> x.lasts(0, 0));
            bridgeOf(x, "h100t63b63", 2);
            refused(x, BAD, () -> x.lasts(2, 5));
            refused(x, BAD, () -> x.lasts(2, 0));
            finds(x, NOTHING, () -> x.lasts(0, 5));
            finds(x, SIZE, () -> x.lasts(0, 0));
            rowOf(x, 0, 99, 0, 0, 0);
            finds(x, SIZE, () -> x.lasts(0, 0));
            rowOf(x, 0, 31, 0, 0);
            finds(x, UNLIKE, () -> x.lasts(0, 0));
            due(x.tear(0), 1);
            finds(x, NOTHING, () -> x.lasts(0, 0));
            due(x.row(0, 1), 1);
            due(x.tear(0), 1);
            finds(x, NOTHING, () -> x.lasts(0, 0));
        });
    }

    private static void kindsBy(BridgeAwake x, int bits, int... places) {
        rowOf(x, 0, places);
        due(x.kinds(0, 0), bits);
    }

    private static void promise28() {
        of(28, "KINDS (bits) that one can be of by these, all else as it is.", x -> {
            bridgeOf(x, "h100t62l20", 2);
            kindsBy(x, 63);
            kindsBy(x, 1 + 4 + 32, 0, 5, 6);
            kindsBy(x, 2, 0, 5, 3);
            kindsBy(x, 16, 0, 5, 2);
            kindsBy(x, 4 + 32, 0, 0, 8);
            kindsBy(x, 8, 0, 2, 9);
            kindsBy(x, 0, 0, 3, 9);
            kindsBy(x, 8, 0, 3, 0);
            kindsBy(x, 4 + 32, 0, 3, 8);
            kindsBy(x, 0, 0, 4, 8);
            kindsBy(x, 1 + 4 + 32, 0, 4, 6);
            kindsBy(x, 1 + 4 + 32, 2, 4, 6);
            kindsBy(x, 32, 3, 4, 6);
            kindsBy(x, 1 + 4, 3, 4, 4);
            kindsBy(x, 32, 30, 3, 8);
            kindsBy(x, 1 + 2 + 16, 30, 0, 0);
            kindsBy(x, 1 + 2 + 8 + 16, 30, 3, 0);
            kindsBy(x, 32, 0, 0, 8, 30, 0, 8);
            kindsBy(x, 0, 0, 0, 8, 30, 0, 0);
            kindsBy(x, 0, 30, 11, 15);
            x.watch(0, 1);
            kindsBy(x, 63);
            due(x.kinds(1, 0), 63);
        });
    }

    private static void promise28Refused() {
        of(28, "BAD; NOTHING; SIZE; UNLIKE. (In this order.)", x -> {
            rowOf(x, 0, 99);
            refused(x, BAD, () -> x.kinds(0, 0));
            bridgeOf(x, "h100t62l20", 2);
            refused(x, BAD, () -> x.kinds(2, 0));
            refused(x, BAD, () -> x.kinds(-1, 0));
            refused(x, BAD, () -> x.kinds(0, 6));
            refused(x, BAD, () -> x.kinds(0, -1));
            refused(x, BAD, () -> x.kinds(2, 5));
            refused(x, BAD, () -> x.kinds(MIN, MAX));
            finds(x, NOTHING, () -> x.kinds(0, 5));
            finds(x, SIZE, () -> x.kinds(0, 0));
            rowOf(x, 0, 0, 0, 99, 0);
            finds(x, SIZE, () -> x.kinds(0, 0));
            due(x.row(0, 40), 40);
            finds(x, SIZE, () -> x.kinds(0, 0));
            rowOf(x, 0, 0, 0, 16);
            finds(x, UNLIKE, () -> x.kinds(0, 0));
            due(x.tear(0), 1);
            finds(x, NOTHING, () -> x.kinds(0, 0));
            due(x.row(0, 1), 1);
            due(x.tear(0), 1);
            finds(x, NOTHING, () -> x.kinds(0, 0));
            due(x.row(0, 0), 0);
            due(x.kinds(0, 0), 63);
        });
    }

    private static void tells(BridgeAwake x, int i, int hour, int part, int... places) {
        rowOf(x, 0, places);
        due(x.test(i, 0), hour);
        due(x.asked(), part);
    }

    private static void promise29() {
        of(29, "The HOUR (0 .. 11) in which, UP as long as now, what one TELLS tells these KINDS apart best:", x -> {
            bridgeOf(x, "h100t62l20", 2);
            // LOVER, WIDOWER: alike as long as one is not UP for more than 2 hours
            tells(x, 0, 0, 2, 0, 0, 8);
            watches(x, 2, 0, 1);
            tells(x, 0, 0, 2, 0, 0, 8);
            watches(x, 1, 0, 1);
            tells(x, 0, 0, 1, 0, 0, 8);
            due(x.count(1), 3);
        });
        of(29, "the greatest part of those alike is least (the first);", x -> {
            bridgeOf(x, "h100t62l20t04t19", 4);
            // 0: in HOUR 0 6, 3, 8, 9, 2, 8; in HOUR 3 6, 3, 8, 0, 2, 8; in HOUR 4 6, 3, 6, 0, 2, 6
            tells(x, 0, 0, 2);
            // 2: 0, 0, 2, 3, 0, 2; then 0, 0, 2, 0, 0, 2; then none is anything
            tells(x, 2, 0, 3);
            // 3: 1, 0, 3, 4, 0, 3; the BORE and the PREACHER, the LOVER and the WIDOWER are alike
            tells(x, 3, 0, 2);
            tells(x, 0, 0, 1, 0, 0, 6);
            tells(x, 0, 0, 1, 0, 5, 3);
            tells(x, 0, 0, 1, 0, 5, 2);
            tells(x, 0, 0, 1, 0, 2, 9);
        });
    }

    private static void promise29Later() {
        of(29, "that part by asked().", x -> {
            bridgeOf(x, "h000l10t99", 2);
            x.watch(0, 1);
            // CHILD, WIDOWER: 3 and 3 in HOURS below 3, then 0 and 3, then 0 and 1
            tells(x, 0, 3, 1, 1, 0, 3);
            // TALKER, BORE, PREACHER: 0 in all HOURS
            tells(x, 0, 0, 3, 1, 0, 0);
            // all but the WIDOWER: 0, 0, 2, 3, 0 in HOUR 0
            tells(x, 0, 0, 3, 1, 4, 0);
            // LOVER alone
            tells(x, 0, 0, 1, 1, 0, 2);
        });
        of(29, "NONE: there is no KIND.", x -> {
            bridgeOf(x, "h100t62l20", 2);
            tells(x, 0, 0, 2, 0, 0, 8);
            rowOf(x, 1, 0, 0, 8, 30, 0, 0);
            aside(x, NONE, () -> x.test(0, 1));
            rowOf(x, 1, 30, 11, 15);
            aside(x, NONE, () -> x.test(0, 1));
            aside(x, NONE, () -> x.test(1, 1));
        });
    }

    private static void promise29Refused() {
        of(29, "BAD; NOTHING; SIZE; UNLIKE. (In this order.)", x -> {
            rowOf(x, 0, 99);
            refused(x, BAD, () -> x.test(0, 0));
            bridgeOf(x, "h100t62l20", 2);
            refused(x, BAD, () -> x.test(2, 0));
            refused(x, BAD, () -> x.test(-1, 0));
            refused(x, BAD, () -> x.test(0, 6));
            refused(x, BAD, () -> x.test(0, -1));
            refused(x, BAD, () -> x.test(2, 5));
            refused(x, BAD, () -> x.test(MAX, MIN));
            finds(x, NOTHING, () -> x.test(0, 5));
            finds(x, SIZE, () -> x.test(0, 0));
            rowOf(x, 0, 0, 99, 0, 0);
            finds(x, SIZE, () -> x.test(0, 0));
            due(x.row(0, 40), 40);
            finds(x, SIZE, () -> x.test(0, 0));
            rowOf(x, 0, 0, 12, 0);
            finds(x, UNLIKE, () -> x.test(0, 0));
            due(x.tear(0), 1);
            finds(x, NOTHING, () -> x.test(0, 0));
            due(x.row(0, 1), 1);
            due(x.tear(0), 1);
            finds(x, NOTHING, () -> x.test(0, 0));
            due(x.row(0, 0), 0);
            due(x.test(0, 0), 0);
        });
    }
}
