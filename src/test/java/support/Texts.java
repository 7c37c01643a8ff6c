/** Feeds texts to a tape, as a caller of the program would. */
final class Texts {
    private Texts() {
    }

    static void feed(TurningDishes dishes, String text) {
        int at = 0;
        while (at < text.length()) {
            int n = Math.min(8, text.length() - at);
            dishes.feed(word(text, at, n), n);
            at += n;
        }
    }

    static long word(String text, int at, int n) {
        long w = 0;
        for (int i = 0; i < n; i++) {
            w = w << 8 | text.charAt(at + i) & 255;
        }
        return w;
    }

    static TurningDishes table(String text) {
        TurningDishes dishes = new TurningDishes();
        feed(dishes, text);
        Check.holds("\"" + text + "\" is read", dishes.table() > 0);
        return dishes;
    }

    /** What table() answers of a text, on a new object. */
    static int read(String text) {
        TurningDishes dishes = new TurningDishes();
        feed(dishes, text);
        return dishes.table();
    }
}
