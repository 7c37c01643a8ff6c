import java.util.function.IntUnaryOperator;

/** The edges that the document names of rows: 'Terms', part 1, its first line, and promises 2 to 5. */
public final class RowBoundariesTest {
    private static final int BYTES = 0, SHORTS = 1, INTS = 2;

    private RowBoundariesTest() {
    }

    public static void main(String[] args) {
        numbersOfRows();
        missingAtFirst();
        lanes();
        fewestAndMostItems();
        zeroAtFirst();
        inPlaceOfWhatIsThere();
        rowRefused();
        bytes();
        shorts();
        ints();
        placesOfSet();
        setRefused();
        copyOfAllAndOfNone();
        copyWithinARow();
        copyBeyondAnEnd();
        copyWrapsAround();
        copyOfTwoLanes();
        copyRefused();
        dropOfFewestAndMost();
        dropRefused();
        Check.end();
    }

    private static void due(String call, long got, long want) {
        Check.due(call, got, want);
    }

    /** Of a number that names a row, all that are none are refused as BAD. */
    private static void noSuchRow(String call, IntUnaryOperator byRow) {
        for (int row : new int[] {-1, 8, 9, 256, Due.LOW, Due.HIGH}) {
            due(call + " of row " + row, byRow.applyAsInt(row), Due.BAD);
        }
    }

    private static void numbersOfRows() {
        Check.says("ROWS 0 .. 7");
        TurningDishes x = Items.table();
        for (int row = 0; row <= 7; row++) {
            due("row " + row, x.row(row, BYTES, 1), 1);
            due("rows", x.count(0), row + 1);
        }
        for (int row = 0; row <= 7; row++) {
            x.set(row, 0, row + 1);
        }
        for (int row = 0; row <= 7; row++) {
            Check.holds("each has its own item", Items.is(x, row, 0, row + 1));
        }
        noSuchRow("row()", row -> x.row(row, BYTES, 1));
        noSuchRow("set()", row -> x.set(row, 0, 1));
        noSuchRow("copy(), a", row -> x.copy(row, 0, 0, 0, 1));
        noSuchRow("copy(), b", row -> x.copy(0, 0, row, 0, 1));
        noSuchRow("drop()", x::drop);
        noSuchRow("wanted()", row -> x.wanted(0, 0, row, 0));
    }

    private static void missingAtFirst() {
        Check.says("are missing (at first)");
        TurningDishes x = Items.table();
        due("rows", x.count(0), 0);
        x.row(0, BYTES, 1);
        for (int row = 1; row <= 7; row++) {
            due("set", x.set(row, 0, 1), Due.NULL);
            due("copy of it", x.copy(row, 0, 0, 0, 0), Due.NULL);
            due("copy to it", x.copy(0, 0, row, 0, 0), Due.NULL);
            due("wanted", x.wanted(0, 0, row, 0), Due.NULL);
            due("drop", x.drop(row), Due.NULL);
        }
        due("rows yet", x.count(0), 1);
    }

    private static void lanes() {
        Check.says("or have a LANE (0 bytes, 1 shorts, 2 ints)");
        TurningDishes x = new TurningDishes();
        due("lane -1", x.row(0, -1, 1), Due.BAD);
        due("lane 3", x.row(0, 3, 1), Due.BAD);
        due("lane least", x.row(0, Due.LOW, 1), Due.BAD);
        due("lane most", x.row(0, Due.HIGH, 1), Due.BAD);
        due("no row yet", x.count(0), 0);
        int[] widest = {0x56, 0x3456, 0x123456};
        for (int lane = 0; lane <= 2; lane++) {
            due("lane " + lane, x.row(0, lane, 1), 1);
            due("as wide as it is", x.set(0, 0, 0x123456), widest[lane]);
        }
    }

    private static void fewestAndMostItems() {
        Check.says("0 to 40 ITEMS");
        for (int lane = 0; lane <= 2; lane++) {
            TurningDishes x = new TurningDishes();
            due("none", x.row(0, lane, 0), 0);
            due("a row of none is there", x.count(0), 1);
            due("and has no item", x.set(0, 0, 1), Due.PLACE);
            due("40", x.row(1, lane, 40), 40);
            due("the last item", x.set(1, 39, 7), 7);
            due("none behind it", x.set(1, 40, 7), Due.PLACE);
            due("41", x.row(2, lane, 41), Due.BAD);
            due("most", x.row(2, lane, Due.HIGH), Due.BAD);
            due("-1", x.row(2, lane, -1), Due.SIZE);
            due("least", x.row(2, lane, Due.LOW), Due.SIZE);
            due("none of these is there", x.count(0), 2);
        }
    }

    private static void zeroAtFirst() {
        Check.says("0 at first.");
        TurningDishes x = Items.table();
        for (int lane = 0; lane <= 2; lane++) {
            x.row(lane, lane, 40);
            for (int i = 0; i < 40; i++) {
                Check.holds("item " + i + " of lane " + lane, Items.is(x, lane, i, 0));
            }
        }
    }

    private static void inPlaceOfWhatIsThere() {
        Check.says("A ROW of a LANE with n ITEMS, in place of what is there: n.");
        TurningDishes x = Items.table();
        x.row(0, INTS, 40);
        for (int i = 0; i < 40; i++) {
            x.set(0, i, 5);
        }
        due("a shorter one", x.row(0, INTS, 3), 3);
        Items.are("what was there is gone", x, 0, 0, 0, 0);
        due("no place behind it", x.set(0, 3, 1), Due.PLACE);
        due("a longer one", x.row(0, INTS, 40), 40);
        for (int i = 0; i < 40; i++) {
            Check.holds("nothing comes back: item " + i, Items.is(x, 0, i, 0));
        }
        due("of another lane", x.row(0, BYTES, 40), 40);
        due("one row all the while", x.count(0), 1);
        due("the new lane's items", x.set(0, 39, 300), 44);
        due("none", x.row(0, BYTES, 0), 0);
        due("no place at all", x.set(0, 0, 1), Due.PLACE);
        due("a row of none is one yet", x.count(0), 1);
    }

    private static void rowRefused() {
        Check.says("BAD: ROW, LANE, n above 40; SIZE.");
        TurningDishes x = Items.table();
        x.row(3, BYTES, 2);
        x.set(3, 1, 4);
        due("ROW ahead of SIZE", x.row(8, BYTES, -1), Due.BAD);
        due("LANE ahead of SIZE", x.row(3, 3, -1), Due.BAD);
        due("LANE", x.row(3, -1, 2), Due.BAD);
        due("n above 40", x.row(3, BYTES, 41), Due.BAD);
        due("SIZE", x.row(3, SHORTS, -1), Due.SIZE);
        due("SIZE where no row is", x.row(4, SHORTS, -1), Due.SIZE);
        due("no row more", x.count(0), 1);
        Items.are("the row stays", x, 3, 0, 4);
        due("its lane stays", x.set(3, 0, 128), -128);
        due("its end stays", x.set(3, 2, 1), Due.PLACE);
    }

    private static void bytes() {
        Check.says("ITEM i becomes v, its lowest bits, as many as the LANE has (read with their sign)");
        TurningDishes x = Items.table();
        x.row(0, BYTES, 1);
        becomes(x, -128, -128);
        becomes(x, -129, 127);
        becomes(x, 127, 127);
        becomes(x, 128, -128);
        becomes(x, 255, -1);
        becomes(x, 256, 0);
        becomes(x, -1, -1);
        becomes(x, -256, 0);
        becomes(x, Due.HIGH, -1);
        becomes(x, Due.LOW, 0);
        becomes(x, 0x7fffff05, 5);
        Items.are("kept as it was answered", x, 0, 5);
    }

    private static void shorts() {
        Check.says("as many as the LANE has (read with their sign): what it is then.");
        TurningDishes x = Items.table();
        x.row(0, SHORTS, 1);
        becomes(x, -32768, -32768);
        becomes(x, -32769, 32767);
        becomes(x, 32767, 32767);
        becomes(x, 32768, -32768);
        becomes(x, 65535, -1);
        becomes(x, 65536, 0);
        becomes(x, 128, 128);
        becomes(x, Due.HIGH, -1);
        becomes(x, Due.LOW, 0);
        becomes(x, 0x7fff0005, 5);
        Items.are("kept as it was answered", x, 0, 5);
    }

    private static void ints() {
        Check.says("2 ints");
        TurningDishes x = Items.table();
        x.row(0, INTS, 1);
        for (int v : new int[] {Due.LOW, Due.HIGH, -1, 0, 128, 32768, 65536, 5}) {
            becomes(x, v, v);
        }
        Items.are("kept as it was answered", x, 0, 5);
        becomes(x, 65536 + 5, 65536 + 5);
        Check.holds("with its high bits", !Items.is(x, 0, 0, 5));
    }

    private static void becomes(TurningDishes x, int v, int item) {
        due("set to " + v, x.set(0, 0, v), item);
    }

    private static void placesOfSet() {
        Check.says("2 PLACE (no such place of a ROW)");
        for (int n : new int[] {1, 2, 39, 40}) {
            TurningDishes x = new TurningDishes();
            x.row(0, BYTES, n);
            due("the first of " + n, x.set(0, 0, 3), 3);
            due("the last of " + n, x.set(0, n - 1, 4), 4);
            due("behind the last of " + n, x.set(0, n, 4), Due.PLACE);
            due("ahead of the first of " + n, x.set(0, -1, 4), Due.PLACE);
            due("place least", x.set(0, Due.LOW, 4), Due.PLACE);
            due("place most", x.set(0, Due.HIGH, 4), Due.PLACE);
        }
    }

    private static void setRefused() {
        Check.says("BAD: ROW; NULL; PLACE.");
        TurningDishes x = Items.table();
        x.row(0, BYTES, 2);
        x.set(0, 0, 1);
        x.set(0, 1, 2);
        due("ROW ahead of PLACE", x.set(8, -1, 9), Due.BAD);
        due("NULL ahead of PLACE", x.set(1, -1, 9), Due.NULL);
        due("NULL", x.set(1, 0, 9), Due.NULL);
        due("PLACE", x.set(0, 2, 9), Due.PLACE);
        due("no row comes of it", x.count(0), 1);
        Items.are("the items stay", x, 0, 1, 2);
    }

    /** A row with items 1, 2, 3 .. n. */
    private static void counted(TurningDishes x, int row, int lane, int n) {
        x.row(row, lane, n);
        for (int i = 0; i < n; i++) {
            x.set(row, i, i + 1);
        }
    }

    private static void copyOfAllAndOfNone() {
        Check.says("n ITEMS of a from i on come to b from j on, as they were ahead: n.");
        TurningDishes x = Items.table();
        counted(x, 0, SHORTS, 40);
        x.row(1, SHORTS, 40);
        due("none, at the first places", x.copy(0, 0, 1, 0, 0), 0);
        due("none, behind the last places", x.copy(0, 40, 1, 40, 0), 0);
        Items.are("nothing came", x, 1, 0, 0, 0);
        due("one, at the last places", x.copy(0, 39, 1, 39, 1), 1);
        Check.holds("the last came", Items.is(x, 1, 39, 40));
        Check.holds("none beside it", Items.is(x, 1, 38, 0));
        due("all", x.copy(0, 0, 1, 0, 40), 40);
        for (int i = 0; i < 40; i += 13) {
            Check.holds("item " + i + " came", Items.is(x, 1, i, i + 1));
            Check.holds("item " + i + " is where it was, too", Items.is(x, 0, i, i + 1));
        }
        x.row(2, SHORTS, 0);
        due("none of a row of none to itself", x.copy(2, 0, 2, 0, 0), 0);
        due("none of it to a full one", x.copy(2, 0, 1, 40, 0), 0);
        due("one of a row of none", x.copy(2, 0, 1, 0, 1), Due.PLACE);
        due("one to a row of none", x.copy(1, 0, 2, 0, 1), Due.PLACE);
    }

    private static void copyWithinARow() {
        Check.says("as they were ahead");
        TurningDishes x = Items.table();
        for (int lane = 0; lane <= 2; lane++) {
            counted(x, lane, lane, 5);
            due("upwards by one", x.copy(lane, 0, lane, 1, 4), 4);
            Items.are("upwards", x, lane, 1, 1, 2, 3, 4);
            due("downwards by one", x.copy(lane, 1, lane, 0, 4), 4);
            Items.are("downwards", x, lane, 1, 2, 3, 4, 4);
            due("all onto itself", x.copy(lane, 0, lane, 0, 5), 5);
            Items.are("onto itself", x, lane, 1, 2, 3, 4, 4);
        }
    }

    private static void copyBeyondAnEnd() {
        Check.says("PLACE (i, j, n below 0, or beyond an end).");
        TurningDishes x = Items.table();
        counted(x, 0, BYTES, 4);
        counted(x, 1, BYTES, 3);
        due("i below 0", x.copy(0, -1, 1, 0, 1), Due.PLACE);
        due("i below 0, none", x.copy(0, -1, 1, 0, 0), Due.PLACE);
        due("j below 0", x.copy(0, 0, 1, -1, 1), Due.PLACE);
        due("j below 0, none", x.copy(0, 0, 1, -1, 0), Due.PLACE);
        due("n below 0", x.copy(0, 2, 1, 2, -1), Due.PLACE);
        due("up to the end of a", x.copy(0, 3, 1, 0, 1), 1);
        due("beyond the end of a", x.copy(0, 3, 1, 0, 2), Due.PLACE);
        due("from the end of a", x.copy(0, 4, 1, 0, 1), Due.PLACE);
        due("from behind the end of a, none", x.copy(0, 5, 1, 0, 0), Due.PLACE);
        due("up to the end of b", x.copy(0, 1, 1, 2, 1), 1);
        due("beyond the end of b", x.copy(0, 0, 1, 2, 2), Due.PLACE);
        due("as many as a has, one more than b", x.copy(0, 0, 1, 0, 4), Due.PLACE);
        due("from the end of b", x.copy(0, 0, 1, 3, 1), Due.PLACE);
        due("from behind the end of b, none", x.copy(0, 0, 1, 4, 0), Due.PLACE);
        Items.are("only what was not refused came", x, 1, 4, 2, 2);
        Items.are("a stays", x, 0, 1, 2, 3, 4);
    }

    private static void copyWrapsAround() {
        Check.says("beyond an end");
        TurningDishes x = Items.table();
        counted(x, 0, BYTES, 4);
        counted(x, 1, BYTES, 4);
        due("i and n wrap around", x.copy(0, Due.HIGH, 1, 0, 1), Due.PLACE);
        due("i and n wrap around to a place", x.copy(0, Due.HIGH, 1, 0, Due.HIGH), Due.PLACE);
        due("j and n wrap around", x.copy(0, 0, 1, Due.HIGH, 1), Due.PLACE);
        due("n is most", x.copy(0, 1, 1, 1, Due.HIGH), Due.PLACE);
        due("n is least", x.copy(0, 1, 1, 1, Due.LOW), Due.PLACE);
        due("i is least", x.copy(0, Due.LOW, 1, 0, 1), Due.PLACE);
        due("j is least", x.copy(0, 0, 1, Due.LOW, 1), Due.PLACE);
        due("all are least", x.copy(0, Due.LOW, 1, Due.LOW, Due.LOW), Due.PLACE);
        Items.are("b stays", x, 1, 1, 2, 3, 4);
    }

    private static void copyOfTwoLanes() {
        Check.says("5 STORE (ROWS of two LANES)");
        TurningDishes x = Items.table();
        for (int lane = 0; lane <= 2; lane++) {
            counted(x, lane, lane, 2);
            counted(x, lane + 3, lane, 2);
        }
        for (int a = 0; a <= 2; a++) {
            for (int b = 3; b <= 5; b++) {
                int due = a == b - 3 ? 2 : Due.STORE;
                due("lane " + a + " to lane " + (b - 3), x.copy(a, 0, b, 0, 2), due);
                due("none of lane " + a + " to lane " + (b - 3), x.copy(a, 0, b, 0, 0), due == 2 ? 0 : due);
            }
        }
    }

    private static void copyRefused() {
        Check.says("BAD: ROWS; NULL; STORE; PLACE");
        TurningDishes x = Items.table();
        counted(x, 0, BYTES, 2);
        counted(x, 1, SHORTS, 2);
        due("ROWS ahead of NULL", x.copy(2, 0, 8, 0, 1), Due.BAD);
        due("ROWS ahead of NULL, the first", x.copy(-1, 0, 2, 0, 1), Due.BAD);
        due("ROWS ahead of PLACE", x.copy(0, -1, 8, 0, 1), Due.BAD);
        due("NULL ahead of STORE", x.copy(2, 0, 1, 0, 1), Due.NULL);
        due("NULL ahead of STORE, the second", x.copy(1, 0, 2, 0, 1), Due.NULL);
        due("NULL ahead of PLACE", x.copy(2, -1, 1, 0, 1), Due.NULL);
        due("NULL, both", x.copy(2, 0, 2, 0, 0), Due.NULL);
        due("STORE ahead of PLACE", x.copy(0, 0, 1, 0, 3), Due.STORE);
        due("STORE ahead of PLACE, n", x.copy(0, 0, 1, 0, -1), Due.STORE);
        Items.are("a stays", x, 0, 1, 2);
        Items.are("b stays", x, 1, 1, 2);
        due("no row comes of it", x.count(0), 2);
    }

    private static void dropOfFewestAndMost() {
        Check.says("A ROW is missing from now on: how many ITEMS it had.");
        TurningDishes x = Items.table();
        for (int row = 0; row <= 7; row++) {
            x.row(row, INTS, row * 40 / 7);
        }
        due("all eight", x.count(0), 8);
        for (int row = 0; row <= 7; row++) {
            due("had", x.drop(row), row * 40 / 7);
            due("rows yet", x.count(0), 7 - row);
            due("set", x.set(row, 0, 1), Due.NULL);
            due("copy", x.copy(row, 0, row, 0, 0), Due.NULL);
            due("wanted", x.wanted(0, 0, row, 0), Due.NULL);
        }
        x.row(7, INTS, 2);
        x.set(7, 1, 9);
        x.drop(7);
        x.row(7, INTS, 2);
        Items.are("it does not come back", x, 7, 0, 0);
    }

    private static void dropRefused() {
        Check.says("BAD; NULL.");
        TurningDishes x = Items.table();
        counted(x, 0, BYTES, 2);
        due("row 8", x.drop(8), Due.BAD);
        due("row -1", x.drop(-1), Due.BAD);
        due("missing", x.drop(1), Due.NULL);
        due("the other one stays", x.count(0), 1);
        Items.are("with its items", x, 0, 1, 2);
        due("once", x.drop(0), 2);
        due("not twice", x.drop(0), Due.NULL);
    }
}
