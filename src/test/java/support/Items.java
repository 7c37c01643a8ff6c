/**
 * No call tells an ITEM. wanted() does: with one deaf guest, behind 0 minutes, it answers 1 if the item is
 * as many as the only dish has portions.
 */
final class Items {
    static final String ONE_GUEST = "guest deaf 5;";

    private Items() {
    }

    /** A new object with the table that is() needs. */
    static TurningDishes table() {
        return Texts.table(ONE_GUEST);
    }

    /** Whether item i of a row is v (0 to 99), where the only dish is empty. */
    static boolean is(TurningDishes x, int row, int i, int v) {
        int acts = 0;
        for (int left = v; left > 0; left -= 30) {
            x.fill(0, Math.min(left, 30));
            acts++;
        }
        boolean is = x.wanted(0, 0, row, i) == 1;
        for (; acts > 0; acts--) {
            x.undo();
        }
        return is;
    }

    static void are(String what, TurningDishes x, int row, int... items) {
        for (int i = 0; i < items.length; i++) {
            Check.holds(what + ": item " + i + " is " + items[i], is(x, row, i, items[i]));
        }
    }
}
