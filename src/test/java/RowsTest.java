/** Promises 1 to 7: a new object, row, lay, at, tear, copy, mean. */
public final class RowsTest {
    private static final int BAD = -1, NOTHING = 1, BEYOND = 2, NOUGHT = 4, SIZE = 5;

    public static void main(String[] args) {
        newObject();
        rows();
        places();
        tearing();
        copying();
        copyRefused();
        means();
        Due.end();
    }

    private static void newObject() {
        BridgeAwake x = new BridgeAwake();
        for (int what = 0; what <= 10; what++) {
            Due.due("count(" + what + ") of a new object", x.count(what), 0);
        }
        for (int r = 0; r < 6; r++) {
            Due.finds(x, "at of a new object", x.at(r, 0), NOTHING);
        }
        for (int t = 0; t < 4; t++) {
            Due.finds(x, "fault of a new object", x.fault(t), NOTHING);
        }
    }

    private static void rows() {
        BridgeAwake x = new BridgeAwake();
        Due.due("row(5, 40)", x.row(5, 40), 40);
        Due.told(x, "at(5, 39)", x.at(5, 39), 0);
        Due.due("row(0, 0)", x.row(0, 0), 0);
        Due.due("count(8)", x.count(8), 2);
        Due.due("row(0, 41)", x.row(0, 41), BAD);
        Due.due("row(-1, 1)", x.row(-1, 1), BAD);
        Due.due("row(6, 1)", x.row(6, 1), BAD);
        Due.due("row(6, -1)", x.row(6, -1), BAD);
        Due.due("finding()", x.finding(), 0);
        Due.finds(x, "row(0, -1)", x.row(0, -1), SIZE);
        Due.rowOf(x, 2, 7, 8, 9);
        Due.due("row(2, -1)", x.row(2, -1), -3);
        Due.isRow(x, 2, 7, 8, 9);
        Due.due("row(2, 2)", x.row(2, 2), 2);
        Due.isRow(x, 2, 0, 0);
        Due.due("row(2, 3)", x.row(2, 3), 3);
        Due.isRow(x, 2, 0, 0, 0);
    }

    private static void places() {
        BridgeAwake x = new BridgeAwake();
        Due.finds(x, "lay(0, 0, 1)", x.lay(0, 0, 1), NOTHING);
        Due.finds(x, "at(0, 0)", x.at(0, 0), NOTHING);
        x.row(0, 2);
        Due.told(x, "lay(0, 1, 5)", x.lay(0, 1, 5), 0);
        Due.told(x, "lay(0, 1, min)", x.lay(0, 1, Integer.MIN_VALUE), 5);
        Due.told(x, "at(0, 1)", x.at(0, 1), Integer.MIN_VALUE);
        Due.finds(x, "lay(0, 2, 1)", x.lay(0, 2, 1), BEYOND);
        Due.finds(x, "lay(0, -1, 1)", x.lay(0, -1, 1), BEYOND);
        Due.finds(x, "at(0, 2)", x.at(0, 2), BEYOND);
        Due.finds(x, "at(0, -1)", x.at(0, -1), BEYOND);
        Due.due("asked() stays", x.asked(), Integer.MIN_VALUE);
        Due.due("lay(6, 0, 1)", x.lay(6, 0, 1), BAD);
        Due.due("lay(-1, 0, 1)", x.lay(-1, 0, 1), BAD);
        Due.due("at(6, 0)", x.at(6, 0), BAD);
        Due.due("at(-1, 0)", x.at(-1, 0), BAD);
    }

    private static void tearing() {
        BridgeAwake x = new BridgeAwake();
        Due.finds(x, "tear(3)", x.tear(3), NOTHING);
        Due.rowOf(x, 3, 4, 5);
        Due.due("tear(3)", x.tear(3), 1);
        Due.due("count(8)", x.count(8), 0);
        Due.finds(x, "at(3, 0)", x.at(3, 0), NOTHING);
        Due.finds(x, "tear(3) again", x.tear(3), NOTHING);
        Due.due("tear(6)", x.tear(6), BAD);
        Due.due("tear(-1)", x.tear(-1), BAD);
    }

    private static void copying() {
        BridgeAwake x = new BridgeAwake();
        Due.rowOf(x, 0, 1, 2, 3, 4, 5);
        Due.rowOf(x, 1, 9, 9, 9);
        Due.due("copy(0, 3, 1, 1, 2)", x.copy(0, 3, 1, 1, 2), 1);
        Due.isRow(x, 1, 9, 4, 5);
        Due.due("copy forth in itself", x.copy(0, 0, 0, 1, 4), 1);
        Due.isRow(x, 0, 1, 1, 2, 3, 4);
        Due.due("copy back in itself", x.copy(0, 1, 0, 0, 4), 1);
        Due.isRow(x, 0, 1, 2, 3, 4, 4);
        Due.due("copy of none at the ends", x.copy(0, 5, 1, 3, 0), 1);
        Due.isRow(x, 1, 9, 4, 5);
    }

    private static void copyRefused() {
        BridgeAwake x = new BridgeAwake();
        Due.rowOf(x, 0, 1, 2, 3);
        Due.due("copy(6, ..)", x.copy(6, 0, 0, 0, -1), BAD);
        Due.due("copy(.., -1, ..)", x.copy(0, 0, -1, 0, -1), BAD);
        Due.finds(x, "copy of less than none ahead of missing", x.copy(5, 0, 0, 0, -1), SIZE);
        Due.finds(x, "copy of a missing one", x.copy(5, -1, 0, 0, 1), NOTHING);
        Due.finds(x, "copy to a missing one", x.copy(0, -1, 5, 0, 1), NOTHING);
        Due.finds(x, "copy of too many", x.copy(0, 1, 0, 0, 3), BEYOND);
        Due.finds(x, "copy to too few", x.copy(0, 0, 0, 1, 3), BEYOND);
        Due.finds(x, "copy of none from -1", x.copy(0, -1, 0, 0, 0), BEYOND);
        Due.finds(x, "copy of none from above", x.copy(0, 4, 0, 0, 0), BEYOND);
        Due.finds(x, "copy of none to -1", x.copy(0, 0, 0, -1, 0), BEYOND);
        Due.finds(x, "copy of none to above", x.copy(0, 0, 0, 4, 0), BEYOND);
        Due.finds(x, "copy of very many", x.copy(0, 1, 0, 1, Integer.MAX_VALUE), BEYOND);
        Due.finds(x, "copy from very far", x.copy(0, Integer.MAX_VALUE, 0, 1, 3), BEYOND);
        Due.isRow(x, 0, 1, 2, 3);
    }

    private static void means() {
        BridgeAwake x = new BridgeAwake();
        Due.rowOf(x, 0, 3, 4, 4);
        Due.told(x, "mean(0)", x.mean(0), 3);
        Due.rowOf(x, 0, -3, -4, -4);
        Due.told(x, "mean(0) below 0 is cut", x.mean(0), -3);
        Due.rowOf(x, 0, Integer.MAX_VALUE, Integer.MAX_VALUE, Integer.MAX_VALUE);
        Due.told(x, "mean(0) of great ones", x.mean(0), Integer.MAX_VALUE);
        Due.rowOf(x, 0, Integer.MIN_VALUE, Integer.MIN_VALUE);
        Due.told(x, "mean(0) of low ones", x.mean(0), Integer.MIN_VALUE);
        Due.finds(x, "mean(1)", x.mean(1), NOTHING);
        x.row(1, 0);
        Due.finds(x, "mean(1) of none", x.mean(1), NOUGHT);
        Due.due("mean(6)", x.mean(6), BAD);
        Due.due("mean(-1)", x.mean(-1), BAD);
    }
}
