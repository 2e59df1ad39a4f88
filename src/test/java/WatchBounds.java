/** Sentences about WATCHES to come, and who had the watch: promises 21 to 26. */
final class WatchBounds extends Bounds {
    static void all() {
        aside();
        promise21();
        promise22();
        promise22Refused();
        promise23();
        promise23Refused();
        promise24();
        promise24Refused();
        strengths();
        promise25();
        promise26();
        promise26Refused();
    }

    private static void aside() {
        terms("21, 22, 23, 24", "3 watches to come (aside).", x -> {
            bridgeOf(x, "h101t90l52c34q01", 3);
            x.watch(0, 1);
            due(x.keep(1), 1);
            rowOf(x, 0, 1, 12);
            rowOf(x, 1, 5, 5, 5);
            due(x.best(3, 2) >= 0 ? 1 : 0, 1);
            due(x.through(0) >= 0 ? 1 : 0, 1);
            long digest = x.digest();
            due(x.best(3, 2) >= 0 ? 1 : 0, 1);
            due(x.through(0) >= 0 ? 1 : 0, 1);
            due(x.when(0, 60), NONE);
            due(x.bear(1), 2);
            due(x.digest(), digest);
            due(x.undo(0), 1);
            // what is aside is no DEED, so that it goes behind 40 of them, too
            loads(x, 40);
            due(x.best(1, 2), 20);
            due(x.through(0), 22);
            due(x.when(0, 19), 2);
            due(x.bear(1), 2);
            due(x.count(2), 40);
        });
    }

    private static void promise21() {
        of(21, "The greatest STRENGTH behind n (0 .. 3) WATCHES;", x -> {
            bridgeOf(x, "h009t90t90t00", 3);
            due(x.best(0, 0), 0);
            due(x.best(1, 0), 18);
            due(x.best(2, 0), 23);
            isRow(x, 0, 1, 1);
            // by 01, 02, 01: 18, 9 + 7 + 0, 8 + 5 + 9; by 01, 01, 01 it is 18, 23, 21
            due(x.best(3, 0), 22);
            isRow(x, 0, 1, 2, 1);
            bridgeOf(x, "h400t00t00", 2);
            due(x.best(0, 0), 40);
            due(x.best(1, 0), 20);
            due(x.best(3, 0), 5);
        });
        of(21, "the first such row of them comes to a ROW (anew).", x -> {
            bridgeOf(x, "h400t29t29t39", 3);
            due(x.best(1, 5), 25);
            isRow(x, 5, 2);
            rowOf(x, 5, 7, 8, 9, 10);
            // 24, 12 + 5 as well as 25, 12 + 5
            due(x.best(2, 5), 17);
            isRow(x, 5, 1, 2);
            due(x.best(0, 5), 40);
            isRow(x, 5);
            due(x.count(8), 1);
            bridgeOf(x, "h400t00t00t00t00t00t00", 6);
            due(x.best(3, 0), 5);
            isRow(x, 0, 1, 1, 1);
        });
        of(21, "BAD; STATE: no PEOPLE.", x -> {
            refused(x, STATE, () -> x.best(0, 0));
            refused(x, STATE, () -> x.best(3, 5));
            refused(x, BAD, () -> x.best(4, 0));
            refused(x, BAD, () -> x.best(-1, 0));
            refused(x, BAD, () -> x.best(1, 6));
            bridgeOf(x, "h400t29t29", 2);
            refused(x, BAD, () -> x.best(4, 0));
            refused(x, BAD, () -> x.best(-1, 0));
            refused(x, BAD, () -> x.best(MAX, 0));
            refused(x, BAD, () -> x.best(MIN, 0));
            refused(x, BAD, () -> x.best(1, 6));
            refused(x, BAD, () -> x.best(1, -1));
            refused(x, BAD, () -> x.best(1, MAX));
            due(x.count(8), 0);
        });
    }

    private static void promise22() {
        of(22, "The STRENGTH behind WATCHES of a ROW (0 to 20);", x -> {
            bridgeOf(x, "h400t31t31t90", 3);
            due(x.row(0, 0), 0);
            due(x.through(0), 40);
            rowOf(x, 0, 1, 12, 2);
            // 20 + 6, 13 + 3 + 9, 12 + 3 + 7
            due(x.through(0), 22);
            bridgeOf(x, "h400t00t00t90", 3);
            due(x.row(0, 20), 20);
            for (int k = 0; k < 20; k++) {
                due(x.lay(0, k, 1), 1);
            }
            due(x.through(0), 0);
            due(x.lay(0, 19, 12), 1);
            due(x.through(0), 9);
        });
        of(22, "the least that it was now, and behind any of them, by asked().", x -> {
            bridgeOf(x, "h009t19t29t39", 3);
            rowOf(x, 0, 12);
            due(x.through(0), 5);
            due(x.asked(), 0);
            due(x.row(0, 0), 0);
            due(x.through(0), 0);
            due(x.asked(), 0);
            bridgeOf(x, "h409t00t00t99t99", 4);
            rowOf(x, 0, 1, 1, 1);
            due(x.through(0), 5);
            due(x.asked(), 5);
            rowOf(x, 0, 1, 1, 1, 23);
            due(x.through(0), 20);
            due(x.asked(), 5);
            due(x.row(0, 0), 0);
            due(x.through(0), 40);
            due(x.asked(), 40);
        });
    }

    private static void promise22Refused() {
        of(22, "BAD; STATE; NOTHING;", x -> {
            refused(x, BAD, () -> x.through(-1));
            refused(x, BAD, () -> x.through(6));
            refused(x, BAD, () -> x.through(MAX));
            refused(x, STATE, () -> x.through(0));
            bridgeOf(x, "h400t31t31", 2);
            refused(x, BAD, () -> x.through(6));
            finds(x, NOTHING, () -> x.through(0));
            finds(x, NOTHING, () -> x.through(5));
        });
        of(22, "SIZE: more than 20;", x -> {
            bridgeOf(x, "h400t31t31", 2);
            due(x.row(0, 40), 40);
            for (int k = 0; k < 40; k++) {
                due(x.lay(0, k, 1), 1);
            }
            finds(x, SIZE, () -> x.through(0));
            due(x.row(1, 21), 21);
            due(x.copy(0, 0, 1, 0, 21), 1);
            finds(x, SIZE, () -> x.through(1));
            due(x.row(2, 20), 20);
            due(x.copy(0, 0, 2, 0, 20), 1);
            due(x.through(2), 0);
        });
        of(22, "UNLIKE: no PAIR.", x -> {
            bridgeOf(x, "h400t31t31t31", 3);
            for (int number : new int[] {0, 11, 22, 10, 20, 21, 3, 13, 23, 30, -1, -12, 100, 101, MIN, MAX}) {
                BridgeAwake y = ready("h400t31t31t31", 3);
                rowOf(y, 0, number);
                finds(y, UNLIKE, () -> y.through(0));
                rowOf(y, 0, 12, 1, number);
                finds(y, UNLIKE, () -> y.through(0));
            }
            rowOf(x, 0, 1, 2, 12);
            due(x.through(0) >= 0 ? 1 : 0, 1);
        });
        of(22, "(In this order.)", x -> {
            refused(x, BAD, () -> x.through(6));
            refused(x, STATE, () -> x.through(0));
            due(x.row(0, 21), 21);
            refused(x, STATE, () -> x.through(0));
            rowOf(x, 1, 0);
            refused(x, STATE, () -> x.through(1));
            bridgeOf(x, "h400t31t31", 2);
            finds(x, NOTHING, () -> x.through(2));
            // none of the 21 is a PAIR
            finds(x, SIZE, () -> x.through(0));
            finds(x, UNLIKE, () -> x.through(1));
            due(x.tear(0), 1);
            due(x.tear(1), 1);
            finds(x, NOTHING, () -> x.through(0));
            finds(x, NOTHING, () -> x.through(1));
        });
    }

    private static void promise23() {
        of(23, "Behind how many WATCHES of a ROW (0 to 20) a LOAD (0 .. 60) could cross first "
                + "(0: now, ahead of the first one).", x -> {
            bridgeOf(x, "h100t99t99b10", 3);
            // 10; 5 + 9, 7 + 18, 12 + 18
            rowOf(x, 0, 2, 1, 1);
            aside(x, 0, () -> x.when(0, 0));
            aside(x, 0, () -> x.when(0, 10));
            aside(x, 1, () -> x.when(0, 11));
            aside(x, 1, () -> x.when(0, 14));
            aside(x, 2, () -> x.when(0, 15));
            aside(x, 2, () -> x.when(0, 25));
            aside(x, 3, () -> x.when(0, 26));
            aside(x, 3, () -> x.when(0, 30));
            bridgeOf(x, "h000t00t00t99t99", 4);
            due(x.row(0, 20), 20);
            for (int k = 0; k < 19; k++) {
                due(x.lay(0, k, 1), 1);
            }
            due(x.lay(0, 19, 23), 1);
            due(x.when(0, 18), 20);
            due(x.when(0, 1), 20);
            due(x.when(0, 0), 0);
            bridgeOf(x, "h050t00t00t99t99", 4);
            rowOf(x, 1, 23, 1);
            due(x.when(1, 11), 1);
            due(x.when(1, 5), 0);
            due(x.row(1, 0), 0);
            due(x.when(1, 5), 0);
        });
        of(23, "NONE: neither now nor behind any of them.", x -> {
            bridgeOf(x, "h100t99t99b10", 3);
            rowOf(x, 0, 2, 1, 1);
            aside(x, NONE, () -> x.when(0, 31));
            aside(x, NONE, () -> x.when(0, 60));
            due(x.row(1, 0), 0);
            aside(x, NONE, () -> x.when(1, 11));
            aside(x, 0, () -> x.when(1, 10));
        });
    }

    private static void promise23Refused() {
        of(23, "BAD; STATE; NOTHING; SIZE; UNLIKE.", x -> {
            bridgeOf(x, "h400t31t31", 2);
            rowOf(x, 0, 1);
            refused(x, BAD, () -> x.when(-1, 0));
            refused(x, BAD, () -> x.when(6, 0));
            refused(x, BAD, () -> x.when(0, -1));
            refused(x, BAD, () -> x.when(0, 61));
            refused(x, BAD, () -> x.when(0, MAX));
            refused(x, BAD, () -> x.when(MIN, MIN));
            aside(x, NONE, () -> x.when(0, 60));
            finds(x, NOTHING, () -> x.when(1, 0));
            rowOf(x, 0, 1, 10);
            finds(x, UNLIKE, () -> x.when(0, 0));
            rowOf(x, 0, 2);
            finds(x, UNLIKE, () -> x.when(0, 60));
            due(x.row(2, 21), 21);
            finds(x, SIZE, () -> x.when(2, 0));
        });
        of(23, "(In this order.)", x -> {
            refused(x, BAD, () -> x.when(0, 61));
            refused(x, BAD, () -> x.when(6, 0));
            refused(x, STATE, () -> x.when(0, 0));
            due(x.row(0, 21), 21);
            refused(x, STATE, () -> x.when(0, 0));
            rowOf(x, 1, 0);
            refused(x, STATE, () -> x.when(1, 0));
            bridgeOf(x, "h400t31t31", 2);
            refused(x, BAD, () -> x.when(2, 61));
            refused(x, BAD, () -> x.when(0, -1));
            refused(x, BAD, () -> x.when(1, 61));
            finds(x, NOTHING, () -> x.when(2, 60));
            finds(x, SIZE, () -> x.when(0, 0));
            finds(x, UNLIKE, () -> x.when(1, 0));
            due(x.tear(0), 1);
            due(x.tear(1), 1);
            finds(x, NOTHING, () -> x.when(0, 0));
            finds(x, NOTHING, () -> x.when(1, 0));
        });
    }

    private static void bears(BridgeAwake x, int fewest, int who, int... loads) {
        rowOf(x, 0, loads);
        due(x.bear(0), fewest);
        due(x.asked(), who);
    }

    private static void promise24() {
        of(24, "The fewest PEOPLE by WATCHES of whom LOADS of a ROW (1 to 3, 0 .. 60 each) cross, "
                + "one behind each WATCH;", x -> {
            bridgeOf(x, "h000t30t30t30t30", 4);
            bears(x, 2, 3, 6);
            bears(x, 2, 3, 0);
            bears(x, 2, 3, 0, 0, 0);
            // 01: 6, tired: 1 + 1, so 3 + 2 by 01, 3 + 4 by 02, 3 + 6 by 23
            bears(x, 2, 3, 6, 5);
            bears(x, 3, 7, 6, 6);
            bears(x, 3, 7, 6, 7);
            bears(x, 4, 15, 6, 8);
            bears(x, 4, 15, 6, 9);
            bears(x, 4, 15, 6, 9, 10);
            due(x.count(2), 0);
            BridgeAwake y = ready("h000t30t39t39", 3);
            // 01, 12 as well as 12, 12, but not 01, 01
            bears(y, 2, 6, 6, 9);
            due(x.load(60), 0);
            bears(x, 2, 3, 6);
            rowOf(x, 0, 60);
            due(x.bear(0), NONE);
        });
        of(24, "who by asked() (bits; of like few the least number).", x -> {
            // 03: 10, 12: 10, 23: 11, else less: the least number is not of the first row
            bridgeOf(x, "h000t59t49t69t59q02", 4);
            bears(x, 2, 6, 10);
            bears(x, 2, 12, 11);
            bears(x, 2, 3, 9);
            bridgeOf(x, "h000t00t00t00t00t90t90", 6);
            bears(x, 2, 48, 18);
            bears(x, 2, 17, 9);
        });
        of(24, "NONE: by none.", x -> {
            bridgeOf(x, "h000t30t30t30t30", 4);
            bears(x, 4, 15, 6, 9);
            rowOf(x, 0, 7);
            aside(x, NONE, () -> x.bear(0));
            rowOf(x, 0, 6, 10);
            aside(x, NONE, () -> x.bear(0));
            rowOf(x, 0, 6, 9, 11);
            aside(x, NONE, () -> x.bear(0));
            rowOf(x, 0, 60, 0, 0);
            aside(x, NONE, () -> x.bear(0));
        });
    }

    private static void promise24Refused() {
        of(24, "BAD; STATE; NOTHING;", x -> {
            refused(x, BAD, () -> x.bear(-1));
            refused(x, BAD, () -> x.bear(6));
            refused(x, STATE, () -> x.bear(0));
            bridgeOf(x, "h400t31t31", 2);
            refused(x, BAD, () -> x.bear(MAX));
            refused(x, BAD, () -> x.bear(MIN));
            finds(x, NOTHING, () -> x.bear(0));
            finds(x, NOTHING, () -> x.bear(5));
        });
        of(24, "SIZE: none, more than 3;", x -> {
            bridgeOf(x, "h400t31t31", 2);
            due(x.row(0, 0), 0);
            finds(x, SIZE, () -> x.bear(0));
            due(x.row(0, 4), 4);
            finds(x, SIZE, () -> x.bear(0));
            due(x.row(0, 40), 40);
            finds(x, SIZE, () -> x.bear(0));
            due(x.row(0, 3), 3);
            due(x.bear(0), 2);
            due(x.row(0, 1), 1);
            due(x.bear(0), 2);
        });
        of(24, "UNLIKE: no LOAD.", x -> {
            bridgeOf(x, "h400t31t31", 2);
            for (int[] loads : new int[][] {{61}, {-1}, {0, 61}, {0, 0, -1}, {MAX}, {MIN}, {60, 61}}) {
                BridgeAwake y = ready("h400t31t31", 2);
                rowOf(y, 0, loads);
                finds(y, UNLIKE, () -> y.bear(0));
            }
            rowOf(x, 0, 60);
            aside(x, NONE, () -> x.bear(0));
            rowOf(x, 0, 0);
            due(x.bear(0), 2);
        });
        of(24, "(In this order.)", x -> {
            refused(x, BAD, () -> x.bear(6));
            refused(x, STATE, () -> x.bear(0));
            rowOf(x, 0, 0, 0, 0, 61);
            refused(x, STATE, () -> x.bear(0));
            rowOf(x, 1, 61);
            refused(x, STATE, () -> x.bear(1));
            bridgeOf(x, "h400t31t31", 2);
            finds(x, NOTHING, () -> x.bear(2));
            finds(x, SIZE, () -> x.bear(0));
            finds(x, UNLIKE, () -> x.bear(1));
            due(x.tear(0), 1);
            due(x.tear(1), 1);
            finds(x, NOTHING, () -> x.bear(0));
            finds(x, NOTHING, () -> x.bear(1));
        });
    }

    private static void strengths() {
        terms("25, 26", "4 who had the watch (a ROW of 1 to 3 STRENGTHS 0 .. 60, as they were behind each of as many "
                + "WATCHES from now; likewise: BAD; STATE; NOTHING; SIZE; UNLIKE).", x -> {
            bridgeOf(x, "h100t29t19t09", 3);
            // 01: 8, 02: 7, 12: 6
            ways(x, 1, 1, 8);
            ways(x, 1, 2, 7);
            ways(x, 1, 1, 8, 7);
            ways(x, 1, 2, 7, 6);
            ways(x, 1, 12, 6, 6, 6);
            ways(x, 0, NONE, 60);
            x.watch(0, 1);
            ways(x, 0, NONE, 8);
            ways(x, 1, 1, 7);
            for (int[] places : new int[][] {{}, {0, 0, 0, 0}}) {
                rowOf(x, 0, places);
                finds(x, SIZE, () -> x.sagged(0));
                finds(x, SIZE, () -> x.sure(0));
            }
            BridgeAwake y = ready("h100t29t19t09", 3);
            for (int[] places : new int[][] {{61}, {-1}, {8, 61}, {8, 7, -1}}) {
                rowOf(y, 0, places);
                finds(y, UNLIKE, () -> y.sagged(0));
                finds(y, UNLIKE, () -> y.sure(0));
            }
        });
    }

    private static void ways(BridgeAwake x, int ways, int first, int... strengths) {
        rowOf(x, 0, strengths);
        share(x, x.sagged(0), ways, 1);
        due(x.asked(), first);
    }

    private static void promise25() {
        of(25, "How many rows of WATCHES there are by which it was so, told by upper() (lower() is 1);", x -> {
            bridgeOf(x, "h000t00t00t00t00t00t00", 6);
            ways(x, 15, 1, 0);
            ways(x, 225, 1, 0, 0);
            ways(x, 3375, 1, 0, 0, 0);
            ways(x, 0, NONE, 1);
            bridgeOf(x, "h000t00t00", 2);
            ways(x, 1, 1, 0, 0, 0);
            // exactly so much, neither less nor more
            bridgeOf(x, "h100t29t19t09", 3);
            ways(x, 0, NONE, 5);
            ways(x, 1, 12, 6);
            ways(x, 0, NONE, 9);
            share(x, x.sagged(0), 0, 1);
        });
        of(25, "the first WATCH of the first one by asked() (NONE): 1.", x -> {
            bridgeOf(x, "h100t29t19t19t09", 4);
            // 01, 02: 8; 03, 12: 7; 13, 23: 6
            ways(x, 2, 1, 8);
            ways(x, 2, 3, 7);
            ways(x, 2, 13, 6);
            ways(x, 0, NONE, 8, 8);
            // 01, else 02, then 03 or 12
            ways(x, 4, 1, 8, 6);
            ways(x, 0, NONE, 0);
        });
        of(25, "BAD; STATE; NOTHING; SIZE; UNLIKE.", x -> {
            refused(x, BAD, () -> x.sagged(-1));
            refused(x, BAD, () -> x.sagged(6));
            refused(x, STATE, () -> x.sagged(0));
            rowOf(x, 0, 0, 0, 0, 61);
            refused(x, STATE, () -> x.sagged(0));
            bridgeOf(x, "h100t29t19", 2);
            refused(x, BAD, () -> x.sagged(MAX));
            refused(x, BAD, () -> x.sagged(MIN));
            finds(x, NOTHING, () -> x.sagged(5));
            finds(x, SIZE, () -> x.sagged(0));
            due(x.row(0, 0), 0);
            finds(x, SIZE, () -> x.sagged(0));
            due(x.row(0, 40), 40);
            finds(x, SIZE, () -> x.sagged(0));
            rowOf(x, 0, 8, 8, 61);
            finds(x, UNLIKE, () -> x.sagged(0));
            rowOf(x, 0, -1);
            finds(x, UNLIKE, () -> x.sagged(0));
            ways(x, 0, NONE, 60, 0, 60);
        });
    }

    private static void surely(BridgeAwake x, int always, int never, int... strengths) {
        rowOf(x, 0, strengths);
        due(x.sure(0), always);
        due(x.asked(), never);
    }

    private static void promise26() {
        of(26, "PEOPLE (bits) who had some WATCH in all of these rows; who had none in any by asked().", x -> {
            bridgeOf(x, "h100t29t29t29t09", 4);
            // 01, 02, 12: 9; 03, 13, 23: 7
            surely(x, 0, 8, 9);
            surely(x, 8, 0, 7);
            // 9, then 4 + 4, in any order by which 3 has none, or 4 + 2
            surely(x, 0, 8, 9, 8);
            surely(x, 8, 0, 9, 6);
            bridgeOf(x, "h100t29t19t09", 3);
            surely(x, 3, 4, 8);
            surely(x, 3, 4, 8, 7);
            surely(x, 7, 0, 8, 6);
            surely(x, 6, 1, 6);
            bridgeOf(x, "h000t00t00", 2);
            surely(x, 3, 0, 0, 0, 0);
            bridgeOf(x, "h000t00t00t00t00t00t00", 6);
            surely(x, 0, 0, 0);
            surely(x, 0, 0, 0, 0, 0);
        });
    }

    private static void promise26Refused() {
        of(26, "BAD; STATE; NOTHING; SIZE; UNLIKE;", x -> {
            refused(x, BAD, () -> x.sure(-1));
            refused(x, BAD, () -> x.sure(6));
            refused(x, STATE, () -> x.sure(0));
            bridgeOf(x, "h100t29t19", 2);
            refused(x, BAD, () -> x.sure(MAX));
            refused(x, BAD, () -> x.sure(MIN));
            finds(x, NOTHING, () -> x.sure(0));
            due(x.row(0, 0), 0);
            finds(x, SIZE, () -> x.sure(0));
            due(x.row(0, 4), 4);
            finds(x, SIZE, () -> x.sure(0));
            due(x.row(0, 40), 40);
            finds(x, SIZE, () -> x.sure(0));
            rowOf(x, 0, 8, 61);
            finds(x, UNLIKE, () -> x.sure(0));
            rowOf(x, 0, -1, 8);
            finds(x, UNLIKE, () -> x.sure(0));
        });
        of(26, "NOUGHT: there is no row.", x -> {
            bridgeOf(x, "h100t29t19t09", 3);
            surely(x, 3, 4, 8);
            for (int[] strengths : new int[][] {{9}, {5}, {60}, {8, 8}, {8, 7, 60}, {0}}) {
                BridgeAwake y = ready("h100t29t19t09", 3);
                surely(y, 3, 4, 8);
                rowOf(y, 0, strengths);
                finds(y, NOUGHT, () -> y.sure(0));
            }
            surely(x, 5, 2, 7);
        });
        of(26, "(In this order.)", x -> {
            refused(x, BAD, () -> x.sure(6));
            refused(x, STATE, () -> x.sure(0));
            rowOf(x, 0, 0, 0, 0, 61);
            refused(x, STATE, () -> x.sure(0));
            rowOf(x, 1, 61);
            refused(x, STATE, () -> x.sure(1));
            bridgeOf(x, "h100t29t19", 2);
            finds(x, NOTHING, () -> x.sure(2));
            finds(x, SIZE, () -> x.sure(0));
            finds(x, UNLIKE, () -> x.sure(1));
            // no row comes to 60, but 61 is no STRENGTH
            rowOf(x, 1, 60, 61);
            finds(x, UNLIKE, () -> x.sure(1));
            rowOf(x, 1, 60, 60);
            finds(x, NOUGHT, () -> x.sure(1));
            due(x.tear(0), 1);
            due(x.tear(1), 1);
            finds(x, NOTHING, () -> x.sure(0));
            finds(x, NOTHING, () -> x.sure(1));
        });
    }
}
