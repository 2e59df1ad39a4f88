/** Each sentence of the document, above all those that name a bound, by a test of its own; none is left out. */
public final class BoundsTest extends Bounds {
    public static void main(String[] args) {
        RowBounds.all();
        TextBounds.all();
        PeopleBounds.all();
        DeedBounds.all();
        WatchBounds.all();
        WhoBounds.all();
        ChanceBounds.all();
        ToldBounds.all();
        heads();
        end();
    }

    /** Heads that ask nothing. */
    private static void heads() {
        for (String head : new String[] {"======== ANSWERS.", "======== 1", "======== 2", "1 rows, texts, bridges.",
            "2 deeds.", "6 pairs.", "7 by turns.", "8 chances, lots.", "9 what is told."}) {
            noBound("Terms", head);
        }
    }
}
