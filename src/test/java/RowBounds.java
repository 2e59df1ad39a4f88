/** Sentences about ROWS: promises 1 to 7. */
final class RowBounds extends Bounds {
    static void all() {
        rowsOrMissing();
        promise1();
        promise2();
        promise3();
        promise4();
        promise5();
        promise6();
        promise6Order();
        promise7();
    }

    private static void rowsOrMissing() {
        terms("1, 2, 8", "1 ROWS 0 .. 5 are rows of 0 to 40 ints, TEXTS 0 .. 3 rows of 0 to 60 bytes, "
                + "or missing (at first).", x -> {
            for (int r = 0; r <= 5; r++) {
                int missing = r;
                finds(x, NOTHING, () -> x.at(missing, 0));
            }
            BridgeAwake y = new BridgeAwake();
            for (int t = 0; t <= 3; t++) {
                int missing = t;
                finds(y, NOTHING, () -> y.fault(missing));
            }
            due(y.row(0, 0), 0);
            due(y.row(5, 40), 40);
            due(y.text(0, 0), 0);
            due(y.text(3, 60), 60);
            refused(y, BAD, () -> y.row(0, 41));
            refused(y, BAD, () -> y.row(6, 0));
            refused(y, BAD, () -> y.text(0, 61));
            refused(y, BAD, () -> y.text(4, 0));
            due(y.count(8), 2);
            due(y.count(9), 2);
        });
    }

    private static void promise1() {
        of(1, "No ROWS, TEXTS, PEOPLE.", x -> {
            due(x.count(8), 0);
            due(x.count(9), 0);
            due(x.count(0), 0);
            finds(x, NOTHING, () -> x.at(0, 0));
            finds(x, NOTHING, () -> x.tear(5));
            finds(x, NOTHING, () -> x.put(0, 0, 104));
            finds(x, NOTHING, () -> x.fault(3));
            refused(x, BAD, () -> x.one(0, 0));
            refused(x, BAD, () -> x.talk(0, 1));
            refused(x, BAD, () -> x.watch(0, 1));
            refused(x, STATE, () -> x.load(0));
            refused(x, STATE, () -> x.keep(0));
            finds(x, NOTHING, () -> x.on(0));
        });
    }

    private static void promise2() {
        of(2, "A ROW is there with n ints 0: n.", x -> {
            due(x.row(0, 0), 0);
            due(x.count(8), 1);
            isRow(x, 0);
            due(x.row(0, 1), 1);
            isRow(x, 0, 0);
            due(x.row(5, 40), 40);
            isRow(x, 5, new int[40]);
            rowOf(x, 3, 7, 8, 9);
            due(x.row(3, 2), 2);
            isRow(x, 3, 0, 0);
            due(x.row(3, 4), 4);
            isRow(x, 3, 0, 0, 0, 0);
            rowOf(x, 3, 7, 8);
            due(x.row(3, 0), 0);
            isRow(x, 3);
        });
        of(2, "BAD: also n above 40;", x -> {
            due(x.row(1, 40), 40);
            refused(x, BAD, () -> x.row(1, 41));
            refused(x, BAD, () -> x.row(1, MAX));
            refused(x, BAD, () -> x.row(0, 41));
            refused(x, BAD, () -> x.row(-1, 3));
            refused(x, BAD, () -> x.row(6, 3));
            refused(x, BAD, () -> x.row(MIN, 0));
            refused(x, BAD, () -> x.row(MAX, 0));
            refused(x, BAD, () -> x.row(6, -1));
            refused(x, BAD, () -> x.row(-1, 41));
        });
        of(2, "SIZE: below 0.", x -> {
            rowOf(x, 0, 7, 8);
            finds(x, SIZE, () -> x.row(0, -1));
            finds(x, SIZE, () -> x.row(0, MIN));
            isRow(x, 0, 7, 8);
            finds(x, SIZE, () -> x.row(5, -1));
            finds(x, NOTHING, () -> x.at(5, 0));
        });
    }

    private static void promise3() {
        of(3, "Place i of a ROW is v: what it was, told by asked(): 1.", x -> {
            due(x.row(5, 40), 40);
            told(x, x.lay(5, 0, MIN), 0);
            told(x, x.lay(5, 0, MAX), MIN);
            told(x, x.lay(5, 39, -1), 0);
            told(x, x.lay(5, 39, 6), -1);
            told(x, x.at(5, 0), MAX);
            told(x, x.at(5, 1), 0);
            told(x, x.at(5, 38), 0);
            told(x, x.at(5, 39), 6);
        });
        of(3, "BAD; NOTHING; BEYOND.", x -> {
            refused(x, BAD, () -> x.lay(-1, 0, 1));
            refused(x, BAD, () -> x.lay(6, 0, 1));
            refused(x, BAD, () -> x.lay(MAX, -1, 1));
            finds(x, NOTHING, () -> x.lay(5, 0, 1));
            finds(x, NOTHING, () -> x.lay(0, -1, 1));
            rowOf(x, 0, 7, 8);
            finds(x, BEYOND, () -> x.lay(0, -1, 1));
            finds(x, BEYOND, () -> x.lay(0, 2, 1));
            finds(x, BEYOND, () -> x.lay(0, MAX, 1));
            finds(x, BEYOND, () -> x.lay(0, MIN, 1));
            due(x.row(1, 0), 0);
            finds(x, BEYOND, () -> x.lay(1, 0, 1));
            due(x.row(2, 40), 40);
            finds(x, BEYOND, () -> x.lay(2, 40, 1));
            isRow(x, 0, 7, 8);
        });
    }

    private static void promise4() {
        of(4, "Place i of a ROW, told by asked(): 1.", x -> {
            rowOf(x, 5, MIN, 0, MAX);
            told(x, x.at(5, 0), MIN);
            told(x, x.at(5, 2), MAX);
            told(x, x.at(5, 1), 0);
            due(x.row(0, 40), 40);
            due(x.lay(0, 39, 4), 1);
            told(x, x.at(0, 39), 4);
            told(x, x.at(0, 39), 4);
        });
        of(4, "BAD; NOTHING; BEYOND.", x -> {
            refused(x, BAD, () -> x.at(-1, 0));
            refused(x, BAD, () -> x.at(6, 0));
            refused(x, BAD, () -> x.at(MIN, MIN));
            finds(x, NOTHING, () -> x.at(0, 0));
            finds(x, NOTHING, () -> x.at(5, -1));
            rowOf(x, 0, 7, 8);
            finds(x, BEYOND, () -> x.at(0, -1));
            finds(x, BEYOND, () -> x.at(0, 2));
            finds(x, BEYOND, () -> x.at(0, MAX));
            finds(x, BEYOND, () -> x.at(0, MIN));
            due(x.row(1, 0), 0);
            finds(x, BEYOND, () -> x.at(1, 0));
        });
    }

    private static void promise5() {
        of(5, "A ROW is missing: 1.", x -> {
            rowOf(x, 0, 7);
            rowOf(x, 5, 8, 9);
            due(x.tear(5), 1);
            due(x.count(8), 1);
            finds(x, NOTHING, () -> x.at(5, 0));
            isRow(x, 0, 7);
            due(x.row(5, 2), 2);
            isRow(x, 5, 0, 0);
            due(x.row(1, 0), 0);
            due(x.tear(1), 1);
            due(x.count(8), 2);
        });
        of(5, "BAD; NOTHING.", x -> {
            refused(x, BAD, () -> x.tear(-1));
            refused(x, BAD, () -> x.tear(6));
            refused(x, BAD, () -> x.tear(MAX));
            finds(x, NOTHING, () -> x.tear(0));
            rowOf(x, 0, 7);
            due(x.tear(0), 1);
            finds(x, NOTHING, () -> x.tear(0));
        });
    }

    private static void promise6() {
        of(6, "n places of a ROW, from one on, come to those of another one (perhaps itself) from one on, "
                + "as if taken ahead: 1.", x -> {
            rowOf(x, 0, 1, 2, 3, 4, 5);
            rowOf(x, 1, 9, 9, 9);
            due(x.copy(0, 3, 1, 1, 2), 1);
            isRow(x, 1, 9, 4, 5);
            due(x.copy(0, 0, 0, 1, 4), 1);
            isRow(x, 0, 1, 1, 2, 3, 4);
            due(x.copy(0, 1, 0, 0, 4), 1);
            isRow(x, 0, 1, 2, 3, 4, 4);
            due(x.copy(0, 0, 0, 0, 5), 1);
            isRow(x, 0, 1, 2, 3, 4, 4);
            due(x.row(2, 40), 40);
            due(x.row(3, 40), 40);
            due(x.lay(2, 0, 5), 1);
            due(x.lay(2, 39, 6), 1);
            due(x.copy(2, 0, 3, 0, 40), 1);
            told(x, x.at(3, 0), 5);
            told(x, x.at(3, 39), 6);
            int asked = x.asked();
            due(x.copy(2, 39, 3, 1, 1), 1);
            due(x.asked(), asked);
            told(x, x.at(3, 1), 6);
        });
        of(6, "SIZE: n below 0;", x -> {
            rowOf(x, 0, 7, 8);
            finds(x, SIZE, () -> x.copy(0, 0, 0, 1, -1));
            finds(x, SIZE, () -> x.copy(0, 2, 0, 2, MIN));
            due(x.copy(0, 0, 0, 1, 0), 1);
            isRow(x, 0, 7, 8);
        });
        of(6, "NOTHING: either;", x -> {
            rowOf(x, 0, 7, 8);
            finds(x, NOTHING, () -> x.copy(5, 0, 0, 0, 1));
            finds(x, NOTHING, () -> x.copy(0, 0, 5, 0, 1));
            finds(x, NOTHING, () -> x.copy(4, 0, 5, 0, 0));
            finds(x, NOTHING, () -> x.copy(5, 0, 5, 0, 0));
        });
        of(6, "BEYOND: not so many there", x -> {
            rowOf(x, 0, 7, 8, 9);
            rowOf(x, 1, 5, 6);
            finds(x, BEYOND, () -> x.copy(0, 0, 1, 0, 3));
            finds(x, BEYOND, () -> x.copy(1, 0, 0, 0, 3));
            finds(x, BEYOND, () -> x.copy(0, 2, 1, 0, 2));
            finds(x, BEYOND, () -> x.copy(0, 0, 1, 1, 2));
            finds(x, BEYOND, () -> x.copy(0, -1, 1, 0, 1));
            finds(x, BEYOND, () -> x.copy(0, 0, 1, -1, 1));
            finds(x, BEYOND, () -> x.copy(0, 3, 1, 0, 1));
            finds(x, BEYOND, () -> x.copy(0, 0, 1, 2, 1));
            finds(x, BEYOND, () -> x.copy(0, 1, 0, 1, MAX));
            finds(x, BEYOND, () -> x.copy(0, MAX, 1, MAX, MAX));
            due(x.copy(0, 1, 1, 0, 2), 1);
            isRow(x, 1, 8, 9);
        });
        of(6, "(also with n 0, if i, j is below 0, or above its size).", x -> {
            rowOf(x, 0, 7, 8, 9);
            rowOf(x, 1, 5);
            due(x.row(2, 0), 0);
            due(x.copy(0, 3, 1, 1, 0), 1);
            due(x.copy(2, 0, 2, 0, 0), 1);
            finds(x, BEYOND, () -> x.copy(0, -1, 1, 0, 0));
            finds(x, BEYOND, () -> x.copy(0, 4, 1, 0, 0));
            finds(x, BEYOND, () -> x.copy(0, 0, 1, -1, 0));
            finds(x, BEYOND, () -> x.copy(0, 0, 1, 2, 0));
            finds(x, BEYOND, () -> x.copy(2, 1, 0, 0, 0));
            finds(x, BEYOND, () -> x.copy(0, 0, 2, 1, 0));
            finds(x, BEYOND, () -> x.copy(0, MIN, 1, 0, 0));
            finds(x, BEYOND, () -> x.copy(0, 0, 1, MAX, 0));
            isRow(x, 0, 7, 8, 9);
        });
    }

    private static void promise6Order() {
        of(6, "1. BAD;", x -> {
            rowOf(x, 0, 7, 8);
            refused(x, BAD, () -> x.copy(-1, 0, 0, 0, 1));
            refused(x, BAD, () -> x.copy(6, 0, 0, 0, 1));
            refused(x, BAD, () -> x.copy(0, 0, -1, 0, 1));
            refused(x, BAD, () -> x.copy(0, 0, 6, 0, 1));
            refused(x, BAD, () -> x.copy(MAX, 0, MIN, 0, 1));
        });
        of(6, "(In this order.)", x -> {
            refused(x, BAD, () -> x.copy(6, 0, 0, 0, -1));
            refused(x, BAD, () -> x.copy(0, 0, 6, 0, -1));
            finds(x, SIZE, () -> x.copy(0, 0, 1, 0, -1));
            rowOf(x, 0, 7, 8);
            finds(x, SIZE, () -> x.copy(0, 9, 1, 0, -1));
            finds(x, SIZE, () -> x.copy(0, 9, 0, 9, -1));
            finds(x, NOTHING, () -> x.copy(0, 9, 1, 0, 1));
            finds(x, NOTHING, () -> x.copy(1, 0, 0, 9, 1));
        });
    }

    private static void promise7() {
        of(7, "The mean of a ROW's ints, cut, told by asked(): 1.", x -> {
            rowOf(x, 0, 5);
            told(x, x.mean(0), 5);
            rowOf(x, 0, 3, 4, 4);
            told(x, x.mean(0), 3);
            rowOf(x, 0, -3, -4, -4);
            told(x, x.mean(0), -3);
            rowOf(x, 0, -1, 0);
            told(x, x.mean(0), 0);
            rowOf(x, 0, MIN, MAX);
            told(x, x.mean(0), 0);
            rowOf(x, 0, MIN);
            told(x, x.mean(0), MIN);
            for (int extreme : new int[] {MAX, MIN}) {
                due(x.row(5, 40), 40);
                for (int i = 0; i < 40; i++) {
                    due(x.lay(5, i, extreme), 1);
                }
                told(x, x.mean(5), extreme);
            }
        });
        of(7, "BAD; NOTHING; NOUGHT.", x -> {
            refused(x, BAD, () -> x.mean(-1));
            refused(x, BAD, () -> x.mean(6));
            refused(x, BAD, () -> x.mean(MIN));
            finds(x, NOTHING, () -> x.mean(0));
            due(x.row(0, 0), 0);
            finds(x, NOUGHT, () -> x.mean(0));
            due(x.row(0, 1), 1);
            told(x, x.mean(0), 0);
        });
    }
}
