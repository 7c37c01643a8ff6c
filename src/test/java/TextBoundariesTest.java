/** The edges that the document names of texts: 'Terms', part 1, from THE TAPE on, and promises 6 to 8. */
public final class TextBoundariesTest {
    private static final String[] SORTS = {"eater", "fast", "greedy", "deaf", "drunk"};
    private static final String GUEST = "guest deaf 0;", DISH = "dish 1;";

    private TextBoundariesTest() {
    }

    public static void main(String[] args) {
        emptyTape();
        fullTape();
        lastByteOfAFullTape();
        fewestAndMostBytesFed();
        lowestBytesHighestFirst();
        feedRefused();
        letters();
        figures();
        threeFigures();
        signs();
        blanks();
        manyBlanks();
        noBlanks();
        fewestGuests();
        dishesAheadOfGuests();
        words();
        sorts();
        wants();
        sixGuests();
        portions();
        dishesAsManyAsGuests();
        otherDishesEmpty();
        tableInPlaceOfAnother();
        tokenThatCannotStand();
        endOfTheText();
        leastFaultOfOneToken();
        firstTokenWithAFault();
        tapeEmptyThen();
        faultLeavesAllElse();
        placeOfAFault();
        latestFault();
        Check.end();
    }

    private static void due(String call, long got, long want) {
        Check.due(call, got, want);
    }

    private static void fault(String text, int place, int number) {
        TurningDishes x = new TurningDishes();
        Texts.feed(x, text);
        due("table() of \"" + text + "\"", x.table(), -1000100 - place);
        due("fault() of \"" + text + "\"", x.fault(), number);
        due("no table of \"" + text + "\"", x.count(1), 0);
    }

    private static void read(String text, int guests) {
        due("table() of \"" + text + "\"", Texts.read(text), guests);
    }

    private static void emptyTape() {
        Check.says("bytes on the tape");
        TurningDishes x = new TurningDishes();
        due("none at first", x.count(6), 0);
        due("a byte 0 is one", x.feed(0, 1), 1);
        due("is one", x.count(6), 1);
        fault("", 0, 1);
    }

    private static void fullTape() {
        Check.says("THE TAPE has at most 300 bytes");
        TurningDishes x = new TurningDishes();
        Texts.feed(x, " ".repeat(299));
        due("299", x.count(6), 299);
        due("two more", x.feed(0x2020, 2), Due.FULL);
        due("none of them came", x.count(6), 299);
        due("one more", x.feed(0x20, 1), 300);
        due("full", x.count(6), 300);
        for (int n = 1; n <= 8; n++) {
            due(n + " more", x.feed(0, n), Due.FULL);
        }
        due("full as before", x.count(6), 300);
        x.table();
        due("empty again", x.count(6), 0);
        due("room again", x.feed(0x2020202020202020L, 8), 8);
    }

    private static void lastByteOfAFullTape() {
        Check.says("THE TAPE has at most 300 bytes");
        read(" ".repeat(300 - GUEST.length()) + GUEST, 1);
        read(GUEST + " ".repeat(300 - GUEST.length()), 1);
        fault(GUEST + " ".repeat(299 - GUEST.length()) + "!", 299, 1);
        fault(" ".repeat(300), 300, 1);
        fault(GUEST + " ".repeat(281 - GUEST.length()) + "guest deaf    0    ", 300, 1);
    }

    private static void fewestAndMostBytesFed() {
        Check.says("The lowest n bytes of w (1 to 8)");
        TurningDishes x = new TurningDishes();
        int fed = 0;
        for (int n = 1; n <= 8; n++) {
            fed += n;
            due(n + " bytes", x.feed(0, n), fed);
        }
        for (int n : new int[] {0, 9, -1, 64, 257, Due.LOW, Due.HIGH}) {
            due(n + " bytes", x.feed(0, n), Due.BAD);
        }
        due("none of these came", x.count(6), fed);
    }

    private static void lowestBytesHighestFirst() {
        Check.says("the highest of them first, come behind the tape");
        TurningDishes x = new TurningDishes();
        due("8", x.feed(0x6775657374206472L, 8), 8);
        due("the lowest one", x.feed(0xffffffffffffff75L, 1), 9);
        due("the lowest two", x.feed(0xffffffffffff6e6bL, 2), 11);
        due("the lowest three", x.feed(0xffffffffff20353bL, 3), 14);
        due("read", x.table(), 1);
        due("as it was fed: sort", x.kind(0), 5);
        due("as it was fed: wants", x.guest(0, 1), 5);
        x.feed(0xff20202020202020L, 8);
        due("a byte of 255 is not below 0", x.table(), -1000100);
        x.feed(0x20a0L, 2);
        due("a byte of 160 is not 32", x.table(), -1000101);
    }

    private static void feedRefused() {
        Check.says("BAD: n; FULL: none comes.");
        TurningDishes x = new TurningDishes();
        Texts.feed(x, GUEST + " ".repeat(300 - GUEST.length() - 3));
        due("four, where three have room", x.feed(0x21212121, 4), Due.FULL);
        due("eight", x.feed(0x2121212121212121L, 8), Due.FULL);
        due("BAD ahead of FULL", x.feed(0x21, 9), Due.BAD);
        due("BAD ahead of FULL, none", x.feed(0x21, 0), Due.BAD);
        due("297 as before", x.count(6), 297);
        due("three", x.feed(0x202020, 3), 300);
        due("BAD ahead of FULL, of a full one", x.feed(0x21, 9), Due.BAD);
        due("one", x.feed(0x21, 1), Due.FULL);
        due("nothing but the text is there", x.table(), 1);
    }

    private static void letters() {
        Check.says("NAMES (letters a to z)");
        fault("guesta deaf 0;", 0, 1);
        fault("guestz deaf 0;", 0, 1);
        fault("aguest deaf 0;", 0, 1);
        fault("guest` deaf 0;", 5, 1);
        fault("guest{ deaf 0;", 5, 1);
        fault("guest@ deaf 0;", 5, 1);
        fault("guestA deaf 0;", 5, 1);
        fault("guestZ deaf 0;", 5, 1);
        fault("guest[ deaf 0;", 5, 1);
        fault("guest\u00e1 deaf 0;", 5, 1);
        fault("GUEST deaf 0;", 0, 1);
        fault("guest Deaf 0;", 6, 1);
        fault("a".repeat(300), 0, 1);
    }

    private static void figures() {
        Check.says("NUMBERS (figures, 3 at most)");
        for (int wants = 0; wants <= 5; wants++) {
            read("guest deaf " + wants + ";", 1);
        }
        for (int portions = 0; portions <= 9; portions++) {
            read(GUEST + "dish " + portions + ";", 1);
        }
        fault("guest deaf /;", 11, 1);
        fault("guest deaf :;", 11, 1);
        fault("guest deaf -1;", 11, 1);
        fault("guest deaf 0.;", 12, 1);
        fault("guest deaf 0/;", 12, 1);
        fault("guest deaf 0:;", 12, 1);
        fault("guest deaf \u00b2;", 11, 1);
    }

    private static void threeFigures() {
        Check.says("a run of four figures or more, at its first");
        read("guest deaf 05;", 1);
        read("guest deaf 005;", 1);
        fault("guest deaf 0005;", 11, 1);
        fault("guest deaf 00005;", 11, 1);
        fault("guest deaf 1000;", 11, 1);
        fault("guest deaf 999;", 11, 2);
        read(GUEST + "dish 030;", 1);
        fault(GUEST + "dish 0030;", 18, 1);
        fault(GUEST + "dish 999;", 18, 2);
        fault("guest deaf " + "0".repeat(289), 11, 1);
        fault("guest deaf 4294967296;", 11, 1);
    }

    private static void signs() {
        Check.says("SIGNS ;");
        fault("guest deaf 0:", 12, 1);
        fault("guest deaf 0<", 12, 1);
        fault("guest deaf 0,", 12, 1);
        fault("guest deaf 0\u00bb", 12, 1);
        fault(";" + GUEST, 0, 1);
        fault(GUEST + ";", 13, 1);
        fault(GUEST + DISH + ";", 20, 1);
        fault("guest; deaf 0;", 5, 1);
        fault("guest deaf; 0;", 10, 1);
    }

    private static void blanks() {
        Check.says("bytes 32 and 10");
        read("guest deaf 0;", 1);
        read("guest\ndeaf\n0\n;\n", 1);
        for (int b = 0; b < 256; b++) {
            boolean token = b == ';' || b >= '0' && b <= '9' || b >= 'a' && b <= 'z';
            if (b != 32 && b != 10 && !token) {
                String text = "guest " + (char) b + "deaf 0;";
                due("byte " + b + " between two", Texts.read(text), -1000106);
                due("byte " + b + " behind all", Texts.read(GUEST + (char) b), -1000113);
                due("byte " + b + " ahead of all", Texts.read((char) b + GUEST), -1000100);
            }
        }
    }

    private static void manyBlanks() {
        Check.says("ahead of, between, behind these, as many as wanted");
        String b = " \n\n ".repeat(8);
        read(b + "guest" + b + "deaf" + b + "0" + b + ";" + b + "dish" + b + "1" + b + ";" + b, 1);
        read("\n guest\n deaf\n 0\n ;\n dish\n 1\n ;\n ", 1);
    }

    private static void noBlanks() {
        Check.says("(none is needed where one ends without)");
        read("guest deaf0;guest deaf5;dish1;dish30;", 2);
        fault("guestdeaf 0;", 0, 1);
        fault(GUEST + "dish1;dish1;", 19, 3);
        fault("guest deaf 0 0;", 13, 1);
        fault("guest dea f 0;", 6, 1);
        fault("gu est deaf 0;", 0, 1);
    }

    private static void fewestGuests() {
        Check.says("table: guest { guest } { dish }.");
        read(GUEST, 1);
        read(GUEST + GUEST, 2);
        read(GUEST + DISH, 1);
        read(GUEST + GUEST + DISH + DISH, 2);
        fault("", 0, 1);
        fault(" ", 1, 1);
    }

    /** Of each word every letter counts, the first and the last too, and how many there are. */
    private static void words() {
        Check.says("guest: 'guest' SORT WANTS ';'");
        String text = "guest deaf 0;dish 1;";
        int[][] words = {{0, 5}, {6, 10}, {13, 17}};
        for (int[] word : words) {
            for (int at = word[0]; at < word[1]; at++) {
                fault(text.substring(0, at) + "q" + text.substring(at + 1), word[0], 1);
                fault(text.substring(0, at) + text.substring(at + 1), word[0], 1);
                fault(text.substring(0, at) + "q" + text.substring(at), word[0], 1);
            }
        }
    }

    private static void dishesAheadOfGuests() {
        Check.says("table: guest { guest } { dish }.");
        fault(DISH, 0, 1);
        fault(DISH + GUEST, 0, 1);
        fault(GUEST + DISH + GUEST, 20, 1);
        fault(GUEST + GUEST + DISH + GUEST + DISH, 33, 1);
    }

    private static void sorts() {
        Check.says("(SORT: 'eater' | 'fast' | 'greedy' | 'deaf' | 'drunk'");
        for (int k = 0; k < SORTS.length; k++) {
            TurningDishes x = Texts.table("guest " + SORTS[k] + " 0;");
            due(SORTS[k], x.kind(0), k + 1);
            fault("guest " + SORTS[k] + "s 0;", 6, 1);
            fault("guest " + SORTS[k].substring(0, SORTS[k].length() - 1) + " 0;", 6, 1);
            fault("guest " + SORTS[k].substring(1) + " 0;", 6, 1);
            fault("guest a" + SORTS[k].substring(1) + " 0;", 6, 1);
            fault("guest z" + SORTS[k].substring(1) + " 0;", 6, 1);
            fault(SORTS[k] + " 0;", 0, 1);
        }
        fault("guest guest 0;", 6, 1);
        fault("guest dish 0;", 6, 1);
        fault("guest 0;", 6, 1);
        fault("guest ;", 6, 1);
    }

    private static void wants() {
        Check.says("0 to 5: the DISH that he WANTS, maybe none that there is");
        for (String sort : SORTS) {
            for (int wants = 0; wants <= 5; wants++) {
                TurningDishes x = Texts.table("guest " + sort + " " + wants + ";");
                due(sort + " wants", x.guest(0, 1), wants);
            }
            int place = 7 + sort.length();
            fault("guest " + sort + " 6;", place, 2);
            fault("guest " + sort + " 006;", place, 2);
            fault("guest " + sort + " 10;", place, 2);
            fault("guest " + sort + " 256;", place, 2);
        }
    }

    private static void sixGuests() {
        Check.says("GUESTS 0 .. 5, 6 at most; each sits in the SEAT of his number");
        for (int n = 1; n <= 6; n++) {
            TurningDishes x = Texts.table(GUEST.repeat(n));
            due("guests", x.count(1), n);
            for (int g = 0; g < n; g++) {
                due("seat of " + g, x.guest(g, 0), g);
            }
            due("no guest more", x.guest(n, 0), Due.BAD);
        }
        fault(GUEST.repeat(7), 78, 3);
        fault(GUEST.repeat(8), 78, 3);
        fault(GUEST.repeat(6) + "guest", 78, 3);
        fault(GUEST.repeat(6) + " \nguest 9999", 80, 3);
        fault(GUEST.repeat(6) + "guests", 78, 1);
    }

    private static void portions() {
        Check.says("'dish' PORTIONS ';' (0 to 30;");
        TurningDishes x = Texts.table(GUEST + GUEST + "dish 0;dish 30;");
        due("0", x.dish(0, 0), 0);
        due("30", x.dish(1, 0), 30);
        fault(GUEST + "dish 31;", 18, 2);
        fault(GUEST + "dish 031;", 18, 2);
        fault(GUEST + "dish 100;", 18, 2);
        fault(GUEST + "dish;", 17, 1);
        fault(GUEST + "dish dish;", 18, 1);
        fault(GUEST + "dish 1 1;", 20, 1);
    }

    private static void dishesAsManyAsGuests() {
        Check.says("as many as GUESTS at most");
        for (int n = 1; n <= 6; n++) {
            for (int dishes = 0; dishes <= n; dishes++) {
                read(GUEST.repeat(n) + DISH.repeat(dishes), n);
            }
            fault(GUEST.repeat(n) + DISH.repeat(n + 1), 20 * n, 3);
            fault(GUEST.repeat(n) + DISH.repeat(n) + "dish", 20 * n, 3);
            fault(GUEST.repeat(n) + DISH.repeat(n) + "dish 31;", 20 * n, 3);
            fault(GUEST.repeat(n) + DISH.repeat(n) + "dishes", 20 * n, 1);
        }
    }

    private static void otherDishesEmpty() {
        Check.says("there are as many DISHES as GUESTS, the other ones empty; DISH k lies in SLOT k of the middle");
        for (int told = 0; told <= 6; told++) {
            TurningDishes x = Texts.table(GUEST.repeat(6) + "dish 7;".repeat(told));
            for (int d = 0; d < 6; d++) {
                due("portions of " + d, x.dish(d, 0), d < told ? 7 : 0);
                due("slot of " + d, x.dish(d, 1), d);
            }
            due("no dish more", x.dish(6, 0), Due.BAD);
            due("portions of all", x.count(4), 7 * told);
        }
    }

    private static void tableInPlaceOfAnother() {
        Check.says("A TABLE that is read stands in place of the one before (none at first): "
                + "TURN 0, MINUTE 0, nobody has EATEN; no ACT can be undone; IMAGES and ROWS stay.");
        TurningDishes x = new TurningDishes();
        due("none at first", x.count(1), 0);
        Texts.feed(x, "guest drunk 5;".repeat(6) + "dish 30;".repeat(6));
        x.table();
        x.minutes(24);
        x.turn(5);
        x.change(0, 5);
        x.lay(1, 4);
        x.image(0);
        x.row(2, 0, 40);
        Texts.feed(x, GUEST + GUEST + DISH);
        due("fewer guests", x.table(), 2);
        int[] counts = {1, 2, 0, 0, 1, 0, 0};
        for (int what = 0; what < counts.length; what++) {
            due("count " + what, x.count(what), counts[what]);
        }
        due("no act", x.undo(), Due.STATE);
        for (int g = 0; g < 2; g++) {
            due("seat", x.guest(g, 0), g);
            due("eaten", x.guest(g, 2), 0);
            due("slot", x.dish(g, 1), g);
        }
        due("no guest of before", x.guest(2, 0), Due.BAD);
        due("no dish of before", x.dish(2, 0), Due.BAD);
        due("an image not kept", x.restore(1), Due.STATE);
        due("the image stays", x.restore(0), 1);
        due("with six", x.count(1), 6);
        due("the row stays", x.drop(2), 40);
    }

    /** At each token each other one that cannot stand there. */
    private static void tokenThatCannotStand() {
        Check.says("1 it cannot stand there, or is none");
        for (String token : new String[] {"x", "deaf", "0", "1000", ";", "!"}) {
            fault(token + " deaf 0;", 0, 1);
        }
        for (String token : new String[] {"x", "guest", "dish", "0", "1000", ";", "!"}) {
            fault("guest " + token + " 0;", 6, 1);
        }
        for (String token : new String[] {"x", "guest", "deaf", "1000", ";", "!"}) {
            fault("guest deaf " + token + " ;", 11, 1);
            fault(GUEST + "dish " + token + " ;", 18, 1);
        }
        for (String token : new String[] {"x", "guest", "dish", "0", "1000", "!"}) {
            fault("guest deaf 0 " + token, 13, 1);
            fault(GUEST + "dish 0 " + token, 20, 1);
        }
        for (String token : new String[] {"x", "deaf", "0", "1000", ";", "!"}) {
            fault(GUEST + token, 13, 1);
            fault(GUEST + DISH + token, 20, 1);
        }
    }

    private static void endOfTheText() {
        Check.says("the end: how many bytes there are");
        String text = "guest deaf 0;dish 1;";
        int[] ends = {0, 5, 10, 12, 17, 19};
        for (int end : ends) {
            fault(text.substring(0, end), end, 1);
            fault(text.substring(0, end) + " \n ", end + 3, 1);
        }
        read(text.substring(0, 13), 1);
        read(text, 1);
    }

    private static void leastFaultOfOneToken() {
        Check.says("of one TOKEN the least");
        fault("guest deaf 9999;", 11, 1);
        fault(GUEST.repeat(6) + DISH + "guest deaf 0;", 85, 1);
        fault(GUEST.repeat(6) + "guest deaf 0;", 78, 3);
        fault(DISH, 0, 1);
    }

    private static void firstTokenWithAFault() {
        Check.says("the first TOKEN that has one (its first byte)");
        fault("guest deaf 6;guest deaf 0;dish 31;", 11, 2);
        fault("guest deaf 6", 11, 2);
        fault("guest deaf 6!", 11, 2);
        fault("guest xyz 6;", 6, 1);
        fault(GUEST + "dish 31;dish 1;", 18, 2);
        fault(GUEST + DISH + "dish 31;", 20, 3);
        fault(GUEST.repeat(6) + "guest deaf 6;", 78, 3);
        fault(GUEST + DISH + "  dish", 22, 3);
        fault("guest   deaf  006 ;", 14, 2);
    }

    private static void tapeEmptyThen() {
        Check.says("The tape, empty then, is read: how many GUESTS there are.");
        TurningDishes x = new TurningDishes();
        due("an empty one", x.table(), -1000100);
        due("empty", x.count(6), 0);
        Texts.feed(x, GUEST + DISH);
        due("one", x.table(), 1);
        due("empty", x.count(6), 0);
        due("nothing is read twice", x.table(), -1000100);
        Texts.feed(x, GUEST.repeat(6) + DISH.repeat(6));
        due("six", x.table(), 6);
        Texts.feed(x, GUEST + "!");
        due("a fault", x.table(), -1000113);
        due("empty, too", x.count(6), 0);
        Texts.feed(x, GUEST);
        due("nothing of it comes ahead of the next", x.table(), 1);
    }

    private static void faultLeavesAllElse() {
        Check.says("all but the tape, and what fault() tells, stays.");
        TurningDishes x = Texts.table("guest drunk 0;guest greedy 1;dish 9;dish 9;");
        x.minutes(3);
        x.ask(0, 0);
        x.row(0, 0, 1);
        x.as(0, 1);
        for (String text : new String[] {"", GUEST + GUEST.repeat(6), GUEST + "dish 31;", GUEST + DISH + DISH, "guest"}) {
            Texts.feed(x, text);
            Check.holds("a fault", x.table() <= -1000100);
            int[] counts = {1, 2, 3, 1, 15, 3, 0};
            for (int what = 0; what < counts.length; what++) {
                due("count " + what, x.count(what), counts[what]);
            }
            due("eaten", x.guest(0, 2), 2);
            due("kind", x.kind(0), 5);
            due("trace", x.trace(0), 14);
            due("status", x.status(), 3);
        }
        due("the acts, too", x.undo(), 2);
    }

    private static void placeOfAFault() {
        Check.says("-1000100 less the place of a FAULT");
        for (int at : new int[] {0, 1, 9, 255, 256, 298, 299}) {
            due("at " + at, Texts.read(" ".repeat(at) + "!"), -1000100 - at);
        }
        due("behind the last", Texts.read(" ".repeat(300)), -1000400);
    }

    private static void latestFault() {
        Check.says("The number of the latest FAULT; 0 before one.");
        TurningDishes x = new TurningDishes();
        due("0", x.fault(), 0);
        Texts.feed(x, GUEST);
        x.table();
        due("0 behind a good one", x.fault(), 0);
        String[] texts = {GUEST + DISH + DISH, "guest deaf 6;", "guest", GUEST + "dish 31;", GUEST.repeat(7)};
        int[] faults = {3, 2, 1, 2, 3};
        for (int i = 0; i < texts.length; i++) {
            Texts.feed(x, texts[i]);
            x.table();
            due("the latest", x.fault(), faults[i]);
            Texts.feed(x, GUEST);
            x.table();
            due("it stays behind a good one", x.fault(), faults[i]);
        }
        x.feed(0, 9);
        x.minutes(0);
        x.drop(0);
        due("a refusal is no FAULT", x.fault(), 3);
    }
}
