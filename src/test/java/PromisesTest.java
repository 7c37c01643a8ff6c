import java.util.function.Consumer;

/** Each promise of the document by itself: ordinary calls, the edges that it names, wrong numbers. */
public final class PromisesTest {
    private static final int NONE = -1000000, BAD = -1000001, STATE = -1000002, FULL = -1000003;
    private static final int NULL = -1000011, PLACE = -1000012, KIND = -1000013, SIZE = -1000014, STORE = -1000015;
    private static final int LOW = Integer.MIN_VALUE, HIGH = Integer.MAX_VALUE;

    private static final String FOUR = "guest eater 2;guest fast 1;guest greedy 0;guest deaf 3;"
            + "dish 4;dish 5;dish 1;dish 2;";
    private static final String KINDS = "guest eater 1;guest fast 1;guest greedy 1;guest deaf 1;guest drunk 1;"
            + "dish 9;dish 9;dish 9;dish 9;dish 9;";

    private PromisesTest() {
    }

    public static void main(String[] args) {
        constants();
        newObject();
        row();
        set();
        copy();
        drop();
        feed();
        table();
        faults();
        faultIsKept();
        minutes();
        quarters();
        sortsInAMinute();
        turn();
        fill();
        change();
        lay();
        undo();
        guest();
        dish();
        ahead();
        dishAhead();
        guestAhead();
        last();
        hungry();
        rest();
        served();
        laid();
        wanted();
        seated();
        images();
        kind();
        as();
        askSize();
        askMark();
        trace();
        count();
        status();
        foretellingChangesNothing();
        Check.end();
    }

    private static void due(String call, long got, long want) {
        Check.due(call, got, want);
    }

    private static void constants() {
        due("NONE", TurningDishes.NONE, NONE);
        due("BAD", TurningDishes.BAD, BAD);
        due("STATE", TurningDishes.STATE, STATE);
        due("FULL", TurningDishes.FULL, FULL);
    }

    // Promise 1
    private static void newObject() {
        TurningDishes x = new TurningDishes();
        for (int what = 0; what <= 6; what++) {
            due("new: count " + what, x.count(what), 0);
        }
        due("new: fault", x.fault(), 0);
        due("new: status", x.status(), 0);
        due("new: trace", x.trace(0), NONE);
        for (int row = 0; row < 8; row++) {
            due("new: drop " + row, x.drop(row), NULL);
        }
        due("new: minutes", x.minutes(1), STATE);
        due("new: minutes, bad too", x.minutes(0), STATE);
        due("new: turn, bad too", x.turn(10), STATE);
        due("new: ahead, bad too", x.ahead(-1, 5), STATE);
        due("new: hungry, bad too", x.hungry(100), STATE);
        due("new: laid, bad too", x.laid(0, 9), STATE);
        due("new: rest", x.rest(), STATE);
        due("new: served", x.served(), STATE);
        due("new: undo", x.undo(), STATE);
        due("new: image", x.image(0), STATE);
        due("new: image, bad too", x.image(2), BAD);
        due("new: restore", x.restore(1), STATE);
        due("new: restore, bad too", x.restore(-1), BAD);
        due("new: guest", x.guest(0, 0), BAD);
        due("new: dish", x.dish(0, 0), BAD);
        due("new: fill", x.fill(0, 1), BAD);
        due("new: change", x.change(0, 1), BAD);
        due("new: lay", x.lay(0, 1), BAD);
        due("new: dishAhead", x.dishAhead(0, 0), BAD);
        due("new: guestAhead", x.guestAhead(0, 0), BAD);
        due("new: last", x.last(0, 0), BAD);
        due("new: wanted", x.wanted(0, 0, 0, 0), BAD);
        due("new: seated", x.seated(0, 0, 0), BAD);
        due("new: kind", x.kind(0), BAD);
        due("new: as", x.as(0, 0), BAD);
        due("new: ask", x.ask(0, 0), BAD);
    }

    // Promise 2
    private static void row() {
        TurningDishes x = new TurningDishes();
        due("row of none", x.row(0, 0, 0), 0);
        due("row of 40", x.row(7, 2, 40), 40);
        due("rows", x.count(0), 2);
        due("row 8", x.row(8, 0, 1), BAD);
        due("row -1", x.row(-1, 0, 1), BAD);
        due("lane 3", x.row(1, 3, 1), BAD);
        due("lane -1", x.row(1, -1, 1), BAD);
        due("41", x.row(1, 0, 41), BAD);
        due("most", x.row(1, 0, HIGH), BAD);
        due("lane ahead of size", x.row(1, 3, -1), BAD);
        due("fewer than none", x.row(7, 0, -1), SIZE);
        due("least", x.row(7, 0, LOW), SIZE);
        due("what is refused changes nothing", x.set(7, 39, 70000), 70000);
        due("in place", x.row(7, 1, 40), 40);
        due("rows yet", x.count(0), 2);
        due("items are 0 again", x.wanted(0, 0, 7, 0), BAD);
        Texts.feed(x, "guest deaf 0;");
        due("a table without portions", x.table(), 1);
        due("item 39 is 0 again", x.wanted(0, 0, 7, 39), 1);
        x.set(7, 0, 1);
        x.row(7, 1, 40);
        due("item 0 is 0 again", x.wanted(0, 0, 7, 0), 1);
        due("shorter, in place", x.row(7, 1, 3), 3);
        due("no fourth item", x.set(7, 3, 1), PLACE);
    }

    // Promise 3
    private static void set() {
        TurningDishes x = new TurningDishes();
        x.row(0, 0, 3);
        x.row(1, 1, 3);
        x.row(2, 2, 3);
        due("byte", x.set(0, 0, 127), 127);
        due("byte, one more", x.set(0, 0, 128), -128);
        due("byte, lowest bits", x.set(0, 2, 0x12345), 0x45);
        due("byte, below", x.set(0, 2, -129), 127);
        due("short", x.set(1, 0, 32767), 32767);
        due("short, one more", x.set(1, 1, 32768), -32768);
        due("short, lowest bits", x.set(1, 2, 0x12345), 0x2345);
        due("int", x.set(2, 2, HIGH), HIGH);
        due("int, least", x.set(2, 2, LOW), LOW);
        due("row 8", x.set(8, 0, 1), BAD);
        due("row -1", x.set(-1, 0, 1), BAD);
        due("missing", x.set(3, 0, 1), NULL);
        due("missing ahead of place", x.set(3, -1, 1), NULL);
        due("place 3", x.set(0, 3, 1), PLACE);
        due("place -1", x.set(0, -1, 1), PLACE);
        due("place far", x.set(0, HIGH, 1), PLACE);
        due("place least", x.set(0, LOW, 1), PLACE);
    }

    // Promise 4: what a row holds is seen by wanted() of one deaf guest before an empty dish.
    private static void copy() {
        TurningDishes x = Texts.table("guest deaf 5;dish 0;");
        x.row(0, 0, 6);
        x.row(1, 0, 4);
        x.row(2, 1, 4);
        for (int i = 0; i < 6; i++) {
            x.set(0, i, i);
        }
        due("copy", x.copy(0, 0, 1, 1, 3), 3);
        due("as they come", holds(x, 1, 0, 0), 1);
        due("as they come", holds(x, 1, 1, 0), 1);
        due("as they come", holds(x, 1, 2, 1), 1);
        due("as they come", holds(x, 1, 3, 2), 1);
        due("upwards in itself", x.copy(0, 0, 0, 1, 5), 5);
        due("as they were ahead", holds(x, 0, 5, 4), 1);
        due("as they were ahead", holds(x, 0, 1, 0), 1);
        due("downwards in itself", x.copy(0, 2, 0, 0, 4), 4);
        due("as they were ahead, down", holds(x, 0, 0, 1), 1);
        due("as they were ahead, down", holds(x, 0, 3, 4), 1);
        due("none", x.copy(0, 6, 1, 4, 0), 0);
        due("row 8", x.copy(8, 0, 1, 0, 1), BAD);
        due("row -1", x.copy(0, 0, -1, 0, 1), BAD);
        due("bad ahead of missing", x.copy(3, 0, 8, 0, 1), BAD);
        due("missing a", x.copy(3, 0, 1, 0, 1), NULL);
        due("missing b", x.copy(1, 0, 3, 0, 1), NULL);
        due("missing ahead of place", x.copy(1, -1, 3, 0, 1), NULL);
        due("two lanes", x.copy(0, 0, 2, 0, 1), STORE);
        due("two lanes, none", x.copy(2, 0, 0, 0, 0), STORE);
        due("two lanes ahead of place", x.copy(0, -1, 2, 0, 1), STORE);
        due("i below", x.copy(0, -1, 1, 0, 1), PLACE);
        due("j below", x.copy(0, 0, 1, -1, 1), PLACE);
        due("n below", x.copy(0, 0, 1, 0, -1), PLACE);
        due("beyond a", x.copy(0, 6, 1, 0, 1), PLACE);
        due("beyond b", x.copy(0, 0, 1, 2, 3), PLACE);
        due("beyond a, none", x.copy(0, 7, 1, 0, 0), PLACE);
        due("beyond b, none", x.copy(0, 0, 1, 5, 0), PLACE);
        due("wraps a", x.copy(0, HIGH, 1, 0, 1), PLACE);
        due("wraps b", x.copy(0, 0, 1, HIGH, 2), PLACE);
        due("wraps n", x.copy(0, 1, 1, 1, HIGH), PLACE);
        due("least n", x.copy(0, 1, 1, 1, LOW), PLACE);
        due("what is refused changes nothing", holds(x, 1, 3, 2), 1);
    }

    /** 1, if item i of a row is v: then no portion more is needed than v of the only dish. */
    private static int holds(TurningDishes x, int row, int i, int v) {
        if (v > 0) {
            x.fill(0, v);
        }
        int bits = x.wanted(0, 0, row, i);
        if (v > 0) {
            x.undo();
        }
        return bits;
    }

    // Promise 5
    private static void drop() {
        TurningDishes x = new TurningDishes();
        x.row(4, 2, 17);
        due("drop", x.drop(4), 17);
        due("rows", x.count(0), 0);
        due("gone", x.drop(4), NULL);
        due("gone for set", x.set(4, 0, 1), NULL);
        due("row 8", x.drop(8), BAD);
        due("row -1", x.drop(-1), BAD);
        x.row(4, 0, 0);
        due("drop of none", x.drop(4), 0);
    }

    // Promise 6
    private static void feed() {
        TurningDishes x = new TurningDishes();
        due("0", x.feed(0, 0), BAD);
        due("9", x.feed(0, 9), BAD);
        due("-1", x.feed(0, -1), BAD);
        due("least", x.feed(0, LOW), BAD);
        for (int i = 1; i <= 37; i++) {
            due("8 more", x.feed(0x2020202020202020L, 8), 8 * i);
        }
        due("too many", x.feed(0x2020202020L, 5), FULL);
        due("bad ahead of full", x.feed(0, 9), BAD);
        due("none came", x.count(6), 296);
        due("to the end", x.feed(0x20202020L, 4), 300);
        due("one more", x.feed(0x20, 1), FULL);
        due("a text of blanks ends at its end", x.table(), -1000400);
        due("the tape is empty then", x.count(6), 0);
        due("the highest first, the lowest n alone", x.feed(0x7777777777677565L, 3), 3);
        due("and two", x.feed(0x7777777777777374L, 2), 5);
        due("and eight", x.feed(0x206661737420303bL, 8), 13);
        due("are a guest", x.table(), 1);
        x.feed(0x677565737420L, 6);
        Texts.feed(x, "fast 0");
        due("a byte above 127, with no sign", x.feed(0xffffffffffffffffL, 1), 13);
        due("is no token", x.table(), -1000112);
    }

    // Promise 7
    private static void table() {
        due("one", Texts.read("guest eater 0;"), 1);
        due("six, six", Texts.read("guest eater 5;guest fast 5;guest greedy 5;guest deaf 5;guest drunk 5;"
                + "guest eater 0;dish 30;dish 30;dish 30;dish 30;dish 30;dish 30;"), 6);
        due("blanks", Texts.read("\n  guest\n\neater  0 \n;\n dish \n 3 ; \n"), 1);
        due("no blanks where one ends without", Texts.read("guest eater0;guest fast1;dish3;dish004;"), 2);
        TurningDishes x = Texts.table("guest drunk 5;guest deaf 1;dish 3;");
        due("wants", x.guest(0, 1), 5);
        due("told", x.dish(0, 0), 3);
        due("the other one empty", x.dish(1, 0), 0);
        due("seat", x.guest(1, 0), 1);
        due("slot", x.dish(1, 1), 1);
        x.minutes(3);
        x.lay(0, 1);
        x.change(0, 1);
        x.row(0, 0, 3);
        x.image(1);
        Texts.feed(x, "guest fast 0;guest");
        due("a fault", x.table(), -1000118);
        due("the tape is empty", x.count(6), 0);
        due("what was stays: minutes", x.count(2), 3);
        due("what was stays: turn", x.count(3), 0);
        due("what was stays: acts", x.count(5), 5);
        due("what was stays: guests", x.count(1), 2);
        due("what was stays: slot", x.dish(0, 1), 1);
        Texts.feed(x, "guest fast 0;dish 2;");
        due("another", x.table(), 1);
        due("minute 0", x.count(2), 0);
        due("turn 0", x.count(3), 0);
        due("nobody has eaten", x.guest(0, 2), 0);
        due("no act", x.undo(), STATE);
        due("rows stay", x.count(0), 1);
        due("images stay", x.restore(1), 1);
        due("as kept", x.count(1), 2);
    }

    // Promise 7 and 8: every fault, where it is, and which comes first.
    private static void faults() {
        fault("", 0, 1);
        fault("   \n", 4, 1);
        fault("dish 3;", 0, 1);
        fault("guests eater 0;", 0, 1);
        fault("gues eater 0;", 0, 1);
        fault("guestz eater 0;", 0, 1);
        fault("xuest eater 0;", 0, 1);
        fault("guest beaf 0;", 6, 1);
        fault("guest drunks 0;", 6, 1);
        fault("Guest eater 0;", 0, 1);
        fault("guest", 5, 1);
        fault("guest  ", 7, 1);
        fault("guest eaten 0;", 6, 1);
        fault("guest guest 0;", 6, 1);
        fault("guest ;", 6, 1);
        fault("guest 0;", 6, 1);
        fault("guesteater 0;", 0, 1);
        fault("guest eater", 11, 1);
        fault("guest eater ;", 12, 1);
        fault("guest eater fast;", 12, 1);
        fault("guest eater 6;", 12, 2);
        fault("guest eater 999", 12, 2);
        fault("guest eater 0000;", 12, 1);
        fault("guest eater 9999;", 12, 1);
        fault("guest eater 0", 13, 1);
        fault("guest eater 0 0;", 14, 1);
        fault("guest eater 0,", 13, 1);
        fault("guest eater 0;;", 14, 1);
        fault("guest eater 0;\t", 14, 1);
        fault("guest eater 0;\r\n", 14, 1);
        fault("guest eater 0;5", 14, 1);
        fault("guest eater 0;eater", 14, 1);
        fault("guest eater 0;dish", 18, 1);
        fault("guest eater 0;dish ;", 19, 1);
        fault("guest eater 0;dish a;", 19, 1);
        fault("guest eater 0;dish 31;", 19, 2);
        fault("guest eater 0;dish 1", 20, 1);
        fault("guest eater 0;dish 1 ", 21, 1);
        fault("guest eater 0;dish 1 dish", 21, 1);
        fault("guest eater 0;dish 1;dish x", 21, 3);
        fault("guest eater 0;dish 1;guest eater 0;", 21, 1);
        fault("guest eater 0;dish 31;dish 1;", 19, 2);
        String six = "guest eater 0;".repeat(6);
        fault(six + "guest eater 0;", 84, 3);
        fault(six + "guest 77", 84, 3);
        fault(six + "guestx", 84, 1);
        fault(six + "dish 0;".repeat(6) + "dish 1;", 126, 3);
        fault(six + "dish 0;".repeat(6) + "guest", 126, 1);
    }

    private static void fault(String text, int place, int number) {
        TurningDishes x = new TurningDishes();
        Texts.feed(x, text);
        due("table of \"" + text + "\"", x.table(), -1000100 - place);
        due("fault of \"" + text + "\"", x.fault(), number);
        due("no table of \"" + text + "\"", x.count(1), 0);
    }

    // Promise 8
    private static void faultIsKept() {
        TurningDishes x = new TurningDishes();
        due("before one", x.fault(), 0);
        Texts.feed(x, "guest deaf 0;");
        x.table();
        due("before one yet", x.fault(), 0);
        Texts.feed(x, "guest deaf 6;");
        x.table();
        due("2", x.fault(), 2);
        Texts.feed(x, "guest deaf 1;");
        x.table();
        due("the latest stays", x.fault(), 2);
        Texts.feed(x, "guest deaf 1;dish 1;dish 1;");
        x.table();
        due("3", x.fault(), 3);
        x.table();
        due("1", x.fault(), 1);
    }

    // Promise 9
    private static void minutes() {
        TurningDishes x = Texts.table(FOUR);
        due("0 minutes", x.minutes(0), BAD);
        due("25 minutes", x.minutes(25), BAD);
        due("-1 minutes", x.minutes(-1), BAD);
        due("alike: to the left", x.minutes(1), 1);
        due("guest 0 ate nothing", x.guest(0, 2), 0);
        due("to the right", x.minutes(1), 0);
        due("a fast one eats 2", x.guest(1, 2), 2);
        due("of his dish", x.dish(1, 0), 3);
        due("a greedy one", x.minutes(1), 1);
        due("eats of any", x.guest(2, 2), 1);
        due("of dish 3", x.dish(3, 0), 1);
        due("a deaf one does not push", x.minutes(1), 1);
        due("nor eat of another", x.guest(3, 2), 0);
        due("four more", x.minutes(4), 2);
        due("an eater ate", x.guest(0, 2), 1);
        due("the fast one did not", x.guest(1, 2), 2);
        due("the greedy one did", x.guest(2, 2), 2);
        due("acts", x.count(5), 8);
        due("minutes", x.count(2), 8);
        for (int i = 0; i < 40; i++) {
            x.minutes(24);
        }
        due("968", x.count(2), 968);
        x.minutes(16);
        due("16 more would be too many", x.minutes(16), FULL);
        due("bad ahead of full", x.minutes(25), BAD);
        due("nothing went", x.count(2), 984);
        Check.holds("15 more go", x.minutes(15) >= 0);
        due("999", x.count(2), 999);
        due("one more", x.minutes(1), FULL);
        due("ahead goes on", x.ahead(0, 0), x.count(3));
        Check.holds("ahead goes on", x.ahead(99, 0) >= 0);
    }

    /** With 6 guests and fewer a quarter is 1, however far the dish is away. */
    private static void quarters() {
        TurningDishes x = Texts.table("guest eater 3;guest deaf 5;guest deaf 5;guest deaf 5;guest deaf 5;"
                + "guest deaf 0;dish 0;dish 0;dish 0;dish 9;");
        due("3 away, alike: 1 to the left", x.minutes(1), 1);
        due("how much", x.ahead(6, 1), 1);
        due("once around", x.minutes(6), 2);
        due("there", x.minutes(6), 3);
        due("eaten", x.guest(0, 2), 1);
        due("stays there", x.minutes(6), 3);
        due("eaten again", x.guest(0, 2), 2);
        x = Texts.table("guest fast 2;guest deaf 2;guest deaf 2;dish 0;dish 0;dish 3;");
        due("2 to the left, 1 to the right", x.minutes(1), 2);
        due("2 eaten", x.guest(0, 2), 2);
        x.minutes(3);
        due("the one that is left eaten", x.guest(0, 2), 3);
        due("none is left", x.dish(2, 0), 0);
        x.turn(1);
        x.minutes(2);
        due("an empty dish is not pushed for", x.minutes(1), 0);
        x = Texts.table("guest eater 3;guest deaf 5;guest deaf 5;guest deaf 5;guest deaf 5;"
                + "dish 0;dish 0;dish 0;dish 9;");
        due("3 to the left, 2 to the right: 1 to the right", x.minutes(1), 4);
    }

    private static void sortsInAMinute() {
        TurningDishes x = Texts.table("guest drunk 1;guest deaf 1;dish 3;dish 1;");
        due("a drunk one pushes, always", x.minutes(1), 1);
        due("and eats of what comes", x.guest(0, 2), 1);
        due("of dish 1", x.dish(1, 0), 0);
        due("the deaf one has dish 0 before him", x.minutes(1), 1);
        due("and does not want it", x.guest(1, 2), 0);
        due("round it goes", x.minutes(1), 0);
        due("he does not want dish 0 and eats of it", x.guest(0, 2), 2);
        x = Texts.table("guest greedy 5;guest greedy 1;dish 3;dish 0;");
        due("no such dish: no push", x.minutes(1), 0);
        due("he eats of what is there", x.guest(0, 2), 1);
        due("an empty dish: no push", x.minutes(1), 0);
        due("nothing there", x.guest(1, 2), 0);
        x = Texts.table("guest drunk 0;");
        due("around and back", x.minutes(2), 0);
        due("pushed all the same", x.ahead(3, 1), 3);
        x = Texts.table("guest deaf 0;guest deaf 1;dish 2;dish 2;");
        x.change(0, 1);
        x.minutes(1);
        due("who sits in the seat is on", x.guest(1, 2), 0);
        x.turn(1);
        x.minutes(2);
        due("his dish, in his new seat", x.guest(1, 2), 1);
        due("the other one too", x.guest(0, 2), 1);
    }

    // Promise 10
    private static void turn() {
        TurningDishes x = Texts.table(FOUR);
        due("left", x.turn(3), 3);
        due("on", x.turn(9), 0);
        due("right", x.turn(-1), 3);
        due("far right", x.turn(-9), 2);
        due("not at all", x.turn(0), 2);
        due("an act each", x.count(5), 5);
        due("10", x.turn(10), BAD);
        due("-10", x.turn(-10), BAD);
        due("least", x.turn(LOW), BAD);
        due("nobody pushes, no minute", x.count(2), 0);
        due("before guest 0", x.guest(0, 3), 2);
    }

    // Promise 11
    private static void fill() {
        TurningDishes x = Texts.table(FOUR);
        due("1", x.fill(0, 1), 5);
        due("30", x.fill(0, 30), 35);
        due("30", x.fill(0, 30), 65);
        due("30", x.fill(0, 30), 95);
        due("above 99", x.fill(0, 5), FULL);
        due("stays", x.dish(0, 0), 95);
        due("99", x.fill(0, 4), 99);
        due("above 99", x.fill(0, 1), FULL);
        due("bad ahead of full", x.fill(0, 31), BAD);
        due("0", x.fill(1, 0), BAD);
        due("-1", x.fill(1, -1), BAD);
        due("most", x.fill(1, HIGH), BAD);
        due("dish 4", x.fill(4, 1), BAD);
        due("dish -1", x.fill(-1, 1), BAD);
        due("acts", x.count(5), 5);
        due("all", x.count(4), 107);
    }

    // Promise 12
    private static void change() {
        TurningDishes x = Texts.table(FOUR);
        due("change", x.change(0, 3), 3);
        due("the other one", x.guest(3, 0), 0);
        due("again, another", x.change(3, 1), 1);
        due("guest 1", x.guest(1, 0), 0);
        due("guest 0", x.guest(0, 0), 3);
        due("what they want goes with them", x.guest(0, 1), 2);
        due("alike", x.change(2, 2), BAD);
        due("guest 4", x.change(0, 4), BAD);
        due("guest -1", x.change(-1, 0), BAD);
        due("alike, far", x.change(HIGH, HIGH), BAD);
        due("acts", x.count(5), 2);
        due("the dish before him", x.guest(0, 3), 3);
    }

    // Promise 13
    private static void lay() {
        TurningDishes x = Texts.table(FOUR);
        due("lay", x.lay(0, 3), 3);
        due("the other one", x.dish(3, 1), 0);
        due("again, another", x.lay(3, 1), 1);
        due("dish 1", x.dish(1, 1), 0);
        due("dish 0", x.dish(0, 1), 3);
        due("portions go with them", x.dish(0, 0), 4);
        due("alike", x.lay(2, 2), BAD);
        due("dish 4", x.lay(4, 0), BAD);
        due("dish -1", x.lay(0, -1), BAD);
        due("acts", x.count(5), 2);
        due("before guest 0", x.guest(0, 3), 1);
    }

    // Promise 14
    private static void undo() {
        TurningDishes x = Texts.table(FOUR);
        x.minutes(2);
        x.turn(0);
        x.turn(2);
        x.fill(2, 7);
        x.change(1, 2);
        x.lay(1, 2);
        due("lay undone", x.undo(), 6);
        due("slot", x.dish(1, 1), 1);
        due("change undone", x.undo(), 5);
        due("seat", x.guest(1, 0), 1);
        due("fill undone", x.undo(), 4);
        due("portions", x.dish(2, 0), 1);
        due("turn undone", x.undo(), 3);
        due("turn", x.count(3), 0);
        due("a turn by none undone", x.undo(), 2);
        due("a minute undone", x.undo(), 1);
        due("minute", x.count(2), 1);
        due("turn", x.count(3), 1);
        due("portions", x.dish(1, 0), 5);
        due("eaten", x.guest(1, 2), 0);
        due("it goes on from there", x.minutes(1), 0);
        due("undone again", x.undo(), 1);
        due("the first undone", x.undo(), 0);
        due("turn", x.count(3), 0);
        due("none", x.undo(), STATE);
        x.minutes(24);
        due("24", x.count(5), 24);
        x.turn(1);
        due("24 at most", x.count(5), 24);
        for (int left = 23; left >= 0; left--) {
            due("undone", x.undo(), left);
        }
        due("none", x.undo(), STATE);
        due("the oldest was forgotten", x.count(2), 1);
        x.minutes(1);
        Texts.feed(x, "guest");
        x.table();
        due("a table with a fault leaves the acts", x.undo(), 0);
    }

    // Promise 15
    private static void guest() {
        TurningDishes x = Texts.table(FOUR);
        x.minutes(2);
        x.turn(1);
        due("seat", x.guest(1, 0), 1);
        due("wants", x.guest(0, 1), 2);
        due("eaten", x.guest(1, 2), 2);
        due("before him", x.guest(3, 3), 0);
        due("what 4", x.guest(0, 4), BAD);
        due("what -1", x.guest(0, -1), BAD);
        due("guest 4", x.guest(4, 0), BAD);
        due("guest -1", x.guest(-1, 0), BAD);
        due("guest far", x.guest(HIGH, 0), BAD);
    }

    // Promise 16
    private static void dish() {
        TurningDishes x = Texts.table(FOUR);
        due("portions", x.dish(1, 0), 5);
        due("slot", x.dish(3, 1), 3);
        due("what 2", x.dish(0, 2), BAD);
        due("what -1", x.dish(0, -1), BAD);
        due("dish 4", x.dish(4, 0), BAD);
        due("dish -1", x.dish(-1, 0), BAD);
        due("dish least", x.dish(LOW, 1), BAD);
    }

    // Promise 17
    private static void ahead() {
        TurningDishes x = Texts.table(FOUR);
        int[] turns = {0, 1, 0, 1, 1, 2, 3, 2, 2};
        int[] pushed = {0, 1, 2, 3, 3, 4, 5, 6, 6};
        for (int n = 0; n < turns.length; n++) {
            due("turn ahead by " + n, x.ahead(n, 0), turns[n]);
            due("pushed ahead by " + n, x.ahead(n, 1), pushed[n]);
        }
        x.minutes(4);
        due("from now on", x.ahead(4, 1), 3);
        due("from now on", x.ahead(4, 0), 2);
        due("100", x.ahead(100, 0), BAD);
        due("-1", x.ahead(-1, 0), BAD);
        due("what 2", x.ahead(1, 2), BAD);
        due("what -1", x.ahead(1, -1), BAD);
        Check.holds("99", x.ahead(99, 1) >= 3);
    }

    // Promise 18
    private static void dishAhead() {
        TurningDishes x = Texts.table(FOUR);
        due("now", x.dishAhead(1, 0), 5);
        due("2", x.dishAhead(1, 2), 3);
        due("4", x.dishAhead(2, 4), 1);
        due("5", x.dishAhead(2, 5), 0);
        due("99", x.dishAhead(2, 99), 0);
        due("100", x.dishAhead(2, 100), BAD);
        due("-1", x.dishAhead(2, -1), BAD);
        due("dish 4", x.dishAhead(4, 1), BAD);
        due("dish -1", x.dishAhead(-1, 1), BAD);
    }

    // Promise 19
    private static void guestAhead() {
        TurningDishes x = Texts.table(FOUR);
        due("none", x.guestAhead(1, 0), 0);
        due("2", x.guestAhead(1, 2), 2);
        due("8", x.guestAhead(2, 8), 2);
        x.minutes(3);
        due("in them alone", x.guestAhead(2, 5), 1);
        due("in them alone", x.guestAhead(1, 5), 0);
        due("100", x.guestAhead(0, 100), BAD);
        due("-1", x.guestAhead(0, -1), BAD);
        due("guest 4", x.guestAhead(4, 1), BAD);
        due("guest -1", x.guestAhead(-1, 1), BAD);
    }

    // Promise 20
    private static void last() {
        TurningDishes x = Texts.table(FOUR);
        due("who", x.last(2, 0), 0);
        due("when", x.last(2, 1), 5);
        x.minutes(4);
        due("who, from now on", x.last(2, 0), 0);
        due("when, from now on", x.last(2, 1), 1);
        x.minutes(1);
        due("an empty one: who", x.last(2, 0), NONE);
        due("an empty one: when", x.last(2, 1), NONE);
        due("what 2", x.last(0, 2), BAD);
        due("what -1", x.last(0, -1), BAD);
        due("dish 4", x.last(4, 0), BAD);
        due("dish -1", x.last(-1, 0), BAD);
        due("the 200th", threeDeaf(1).last(1, 1), 200);
        due("the 200th: who", threeDeaf(1).last(1, 0), 1);
        due("the 201st", threeDeaf(2).last(2, 1), NONE);
        due("the 201st: who", threeDeaf(2).last(2, 0), NONE);
        TurningDishes fast = Texts.table("guest deaf 1;guest fast 1;dish 9;dish 3;");
        due("two of three, then the last", fast.last(1, 1), 4);
        due("the fast one", fast.last(1, 0), 1);
        fast.fill(1, 1);
        due("the last two at once", fast.last(1, 1), 4);
    }

    /** Three deaf guests, each before his dish, of which one has 67 portions. */
    private static TurningDishes threeDeaf(int dish) {
        TurningDishes x = Texts.table("guest deaf 0;guest deaf 1;guest deaf 2;");
        x.fill(dish, 30);
        x.fill(dish, 30);
        x.fill(dish, 7);
        return x;
    }

    // Promise 21
    private static void hungry() {
        TurningDishes x = Texts.table(FOUR);
        due("now", x.hungry(0), 15);
        due("2", x.hungry(2), 13);
        due("3", x.hungry(3), 9);
        due("8", x.hungry(8), 8);
        x.minutes(2);
        due("who has eaten before is not", x.hungry(0), 13);
        due("from now on", x.hungry(1), 9);
        due("100", x.hungry(100), BAD);
        due("-1", x.hungry(-1), BAD);
        Check.holds("99", x.hungry(99) <= 8);
    }

    // Promise 22
    private static void rest() {
        TurningDishes x = Texts.table("guest deaf 0;guest deaf 0;dish 1;");
        due("behind the first", x.rest(), 1);
        x.turn(1);
        due("behind the second", x.rest(), 2);
        x.minutes(2);
        due("now", x.rest(), 0);
        due("nothing to eat, nobody who can push", Texts.table("guest eater 1;guest fast 5;").rest(), 0);
        due("somebody always pushes", Texts.table("guest drunk 0;").rest(), NONE);
        due("200", threeDeaf(1).rest(), 200);
        due("201", threeDeaf(2).rest(), NONE);
        due("as many as guests running, not fewer", Texts.table("guest eater 2;guest deaf 5;guest deaf 5;"
                + "guest deaf 5;dish 0;dish 0;dish 1;").rest(), 5);
        due("pushing alone is no rest", Texts.table("guest eater 3;" + "guest deaf 5;".repeat(5)
                + "dish 0;dish 0;dish 0;dish 1;").rest(), 13);
    }

    // Promise 23
    private static void served() {
        due("all have theirs", Texts.table("guest deaf 0;guest drunk 1;guest fast 2;").served(), 0);
        due("no such dish", Texts.table("guest deaf 3;guest drunk 4;guest fast 5;").served(), 0);
        due("an empty dish is one", Texts.table("guest deaf 1;guest drunk 5;guest fast 5;").served(), 1);
        due("to the right", Texts.table("guest deaf 2;guest drunk 5;guest fast 5;").served(), 1);
        due("now, and two away", Texts.table(FOUR).served(), 2);
        due("left 1, right 1", served6(1, 5), 3);
        due("left 2, right 1", served6(2, 5), 4);
        due("left 1, right 2", served6(1, 4), 4);
        due("left 4", served6(2, 4), 4);
        due("left 3", served6(3, 3), 3);
        due("right 3", served6(4, 3), 3);
        due("left 1, 3", served6(1, 3), 3);
        TurningDishes x = Texts.table(FOUR);
        x.turn(1);
        due("one this way, one that way", x.served(), 3);
        x.turn(1);
        due("two away again", x.served(), 2);
        x.change(0, 1);
        due("the seats count", x.served(), 2);
        x.lay(0, 3);
        due("the slots count", x.served(), 1);
    }

    /** Guest 0 needs the middle turned by a to the left, guest 1 by b, the others do not care. */
    private static int served6(int a, int b) {
        return Texts.table("guest deaf " + a + ";guest deaf " + (1 + b) % 6 + ";guest deaf 2;guest deaf 3;"
                + "guest deaf 4;guest deaf 5;").served();
    }

    // Promise 24
    private static void laid() {
        TurningDishes x = Texts.table("guest eater 1;guest eater 0;dish 3;dish 3;");
        due("how much", x.laid(2, -1), 0);
        due("dish 0", x.laid(2, 0), 1);
        due("dish 1", x.laid(2, 1), 0);
        TurningDishes deaf = Texts.table("guest deaf 1;guest deaf 0;guest deaf 0;dish 3;dish 3;");
        for (int dish = 0; dish < 3; dish++) {
            due("of several the first", deaf.laid(20, dish), dish);
        }
        deaf.lay(0, 2);
        due("wherever they lie now", deaf.laid(20, 0), 0);
        TurningDishes drunk = Texts.table("guest drunk 0;guest drunk 0;dish 1;");
        due("a drunk one pushes", drunk.laid(1, -1), 1);
        due("20 minutes", drunk.laid(20, -1), 20);
        due("the first", drunk.laid(20, 1), 1);
        TurningDishes turned = Texts.table("guest eater 0;guest deaf 5;guest deaf 5;dish 9;");
        turned.turn(1);
        due("the turn counts", turned.laid(1, 0), 1);
        due("the others in order", turned.laid(1, 1), 0);
        due("the others in order", turned.laid(1, 2), 2);
        due("21", x.laid(21, 0), BAD);
        due("0", x.laid(0, 0), BAD);
        due("-1", x.laid(-1, 0), BAD);
        due("dish 2", x.laid(1, 2), BAD);
        due("dish -2", x.laid(1, -2), BAD);
        due("dish far", x.laid(1, HIGH), BAD);
    }

    // Promise 25
    private static void wanted() {
        TurningDishes x = Texts.table("guest deaf 2;guest deaf 2;guest deaf 2;dish 3;dish 0;dish 1;");
        x.row(0, 0, 5);
        x.set(0, 1, 3);
        x.set(0, 3, 1);
        due("nothing eaten, so not dish 0", x.wanted(0, 1, 0, 1), 6);
        due("in no minute any", x.wanted(0, 0, 0, 1), 7);
        x.set(0, 1, 2);
        due("one eaten: dish 0", x.wanted(0, 1, 0, 1), 1);
        due("never so", x.wanted(0, 0, 0, 1), 0);
        x.row(1, 2, 3);
        x.set(1, 0, 2);
        due("guest 2 ate the one of dish 2", x.wanted(0, 3, 1, 0), 1);
        due("of another guest", x.wanted(1, 3, 1, 0), 0);
        due("he wants as before", x.guest(0, 1), 2);
        due("row 8", x.wanted(0, 1, 8, 0), BAD);
        due("row -1", x.wanted(0, 1, -1, 0), BAD);
        due("100", x.wanted(0, 100, 0, 0), BAD);
        due("-1", x.wanted(0, -1, 0, 0), BAD);
        due("guest 3", x.wanted(3, 1, 0, 0), BAD);
        due("guest -1", x.wanted(-1, 1, 0, 0), BAD);
        due("bad ahead of missing", x.wanted(3, 1, 7, 0), BAD);
        due("missing", x.wanted(0, 1, 7, 0), NULL);
        due("missing ahead of place", x.wanted(0, 1, 7, -1), NULL);
        due("place -1", x.wanted(0, 1, 0, -1), PLACE);
        due("place 3 of 5", x.wanted(0, 1, 0, 3), PLACE);
        due("place far", x.wanted(0, 1, 0, HIGH), PLACE);
        Check.holds("99", x.wanted(0, 99, 0, 2) >= 0);
    }

    // Promise 26
    private static void seated() {
        TurningDishes x = Texts.table("guest deaf 2;guest deaf 5;guest deaf 5;dish 9;dish 9;dish 9;");
        due("with whom", x.seated(0, 3, 0), 2);
        due("how much", x.seated(0, 3, 1), 1);
        due("behind six", x.seated(0, 6, 1), 2);
        due("none in 0: the least", x.seated(1, 0, 0), 0);
        due("none: how much", x.seated(1, 0, 1), 0);
        due("of like ones the least, not himself", x.seated(2, 99, 0), 0);
        x.change(0, 2);
        x.minutes(3);
        due("himself: not at all", x.seated(0, 3, 0), 0);
        due("in the next ones alone", x.seated(0, 3, 1), 1);
        due("he sits where he sat", x.guest(0, 0), 2);
        due("100", x.seated(0, 100, 0), BAD);
        due("-1", x.seated(0, -1, 0), BAD);
        due("what 2", x.seated(0, 1, 2), BAD);
        due("what -1", x.seated(0, 1, -1), BAD);
        due("guest 3", x.seated(3, 1, 0), BAD);
        due("guest -1", x.seated(-1, 1, 0), BAD);
    }

    // Promises 27, 28
    private static void images() {
        TurningDishes x = Texts.table(FOUR);
        x.minutes(5);
        x.change(0, 1);
        x.lay(2, 3);
        x.fill(0, 3);
        due("image 0", x.image(0), 1);
        due("acts stay", x.count(5), 8);
        x.minutes(3);
        x.change(0, 1);
        due("image 1", x.image(1), 1);
        due("image 2", x.image(2), BAD);
        due("image -1", x.image(-1), BAD);
        Texts.feed(x, "guest deaf 0;");
        x.table();
        x.minutes(1);
        due("restore", x.restore(0), 1);
        due("no act", x.undo(), STATE);
        due("guests", x.count(1), 4);
        due("minutes", x.count(2), 5);
        due("turn", x.count(3), 2);
        due("seat", x.guest(0, 0), 1);
        due("slot", x.dish(2, 1), 3);
        due("portions", x.dish(0, 0), 7);
        due("eaten", x.guest(1, 2), 2);
        due("wants", x.guest(0, 1), 2);
        due("kind", x.kind(2), 3);
        x.minutes(2);
        due("the other image", x.restore(1), 1);
        due("minutes", x.count(2), 8);
        due("seat", x.guest(0, 0), 0);
        due("the first again", x.restore(0), 1);
        due("minutes", x.count(2), 5);
        due("image 2", x.restore(2), BAD);
        due("image -1", x.restore(-1), BAD);
        TurningDishes y = Texts.table(FOUR);
        y.image(1);
        due("none was kept", y.restore(0), STATE);
        due("an image is kept in place of another", x.image(1), 1);
        x.minutes(1);
        x.restore(1);
        due("minutes", x.count(2), 5);
    }

    // Promise 29
    private static void kind() {
        TurningDishes x = Texts.table(KINDS);
        for (int guest = 0; guest < 5; guest++) {
            due("kind of " + guest, x.kind(guest), guest + 1);
        }
        due("guest 5", x.kind(5), BAD);
        due("guest -1", x.kind(-1), BAD);
    }

    // Promise 30
    private static void as() {
        TurningDishes x = Texts.table(KINDS);
        String[] are = {"11....", "111...", "11.1..", "1...1.", "1...11"};
        for (int guest = 0; guest < 5; guest++) {
            for (int kind = 0; kind <= 5; kind++) {
                boolean is = are[guest].charAt(kind) == '1';
                due("as " + guest + ", " + kind, x.as(guest, kind), is ? guest : KIND);
                due("status", x.status(), is ? 0 : 3);
            }
        }
        due("kind 6", x.as(0, 6), BAD);
        due("kind -1", x.as(0, -1), BAD);
        due("guest 5", x.as(5, 0), BAD);
        due("guest -1", x.as(-1, 0), BAD);
    }

    /** After 5 minutes each of the five has been on once. */
    private static TurningDishes kindsBehindFive() {
        TurningDishes x = Texts.table(KINDS);
        x.minutes(5);
        int[] eaten = {1, 2, 1, 0, 1};
        for (int guest = 0; guest < 5; guest++) {
            due("eaten by " + guest, x.guest(guest, 2), eaten[guest]);
        }
        return x;
    }

    // Promises 31, 32: 0 SIZE
    private static void askSize() {
        TurningDishes x = kindsBehindFive();
        asked(x, 0, 0, 1 + (0 + 1), 11, 10, 21, 20);
        asked(x, 1, 0, -(2 + 2 * (1 + 1)), 12, 11, 10, 24, 21, 20);
        asked(x, 2, 0, 1 + (2 + 1 - 1000), 11, 10, 22, 21, 20);
        asked(x, 3, 0, 0 - 100, 13, 10);
        asked(x, 4, 0, 2 * (1 - 100), 14, 13, 10);
        due("what 2", x.ask(0, 2), BAD);
        due("what -1", x.ask(0, -1), BAD);
        due("guest 5", x.ask(5, 0), BAD);
        due("guest -1", x.ask(-1, 0), BAD);
        due("what is refused leaves the trace", x.trace(0), 14);
    }

    // Promises 31, 32: 1 MARK
    private static void askMark() {
        TurningDishes x = kindsBehindFive();
        asked(x, 0, 1, 0 + 1, 21, 20);
        asked(x, 1, 1, 2 * (1 + 1), 24, 21, 20);
        asked(x, 2, 1, 2 + 1 - 1000, 22, 21, 20);
        asked(x, 3, 1, 3 - (0 - 100), 23, 20, 13, 10);
        asked(x, 4, 1, 4 - 2 * (1 - 100), 23, 20, 14, 13, 10);
    }

    private static void asked(TurningDishes x, int guest, int what, int answer, int... trace) {
        due("ask " + guest + ", " + what, x.ask(guest, what), answer);
        for (int i = 0; i < 16; i++) {
            due("trace " + i + " of ask " + guest + ", " + what, x.trace(i), i < trace.length ? trace[i] : NONE);
        }
    }

    // Promise 32
    private static void trace() {
        TurningDishes x = Texts.table(KINDS);
        due("empty at first", x.trace(0), NONE);
        x.ask(0, 0);
        due("-1", x.trace(-1), NONE);
        due("behind the end", x.trace(4), NONE);
        due("16", x.trace(16), NONE);
        due("most", x.trace(HIGH), NONE);
        due("least", x.trace(LOW), NONE);
        x.minutes(1);
        x.table();
        due("it stays", x.trace(3), 20);
        x.ask(3, 0);
        due("the next ask empties it", x.trace(2), NONE);
    }

    // Promise 33
    private static void count() {
        TurningDishes x = Texts.table(FOUR);
        x.row(0, 0, 1);
        x.row(5, 0, 1);
        x.row(6, 0, 0);
        x.minutes(3);
        x.fill(0, 20);
        x.feed(0, 7);
        int[] counts = {3, 4, 3, 1, 29, 4, 7};
        for (int what = 0; what < counts.length; what++) {
            due("count " + what, x.count(what), counts[what]);
        }
        due("count 7", x.count(7), BAD);
        due("count -1", x.count(-1), BAD);
        due("count least", x.count(LOW), BAD);
    }

    // Promise 34: each call that can set it, and those that leave it.
    private static void status() {
        TurningDishes x = Texts.table(FOUR);
        x.row(0, 0, 3);
        x.row(1, 1, 3);
        follows(x, "missing", y -> y.set(7, 0, 0), 1);
        follows(x, "place", y -> y.set(0, 3, 0), 2);
        follows(x, "kind", y -> y.as(0, 2), 3);
        follows(x, "size", y -> y.row(0, 0, -1), 4);
        follows(x, "store", y -> y.copy(0, 0, 1, 0, 0), 5);
        follows(x, "copy, place", y -> y.copy(0, 0, 0, 3, 1), 2);
        follows(x, "copy, missing", y -> y.copy(0, 0, 7, 3, 1), 1);
        follows(x, "wanted, place", y -> y.wanted(0, 0, 0, 0), 2);
        follows(x, "wanted, missing", y -> y.wanted(0, 0, 7, 0), 1);
        stays(x, "row, bad", y -> y.row(8, 0, 1), 1);
        stays(x, "row, bad ahead of size", y -> y.row(0, 3, -1), 1);
        stays(x, "set, bad", y -> y.set(8, 0, 1), 1);
        stays(x, "copy, bad", y -> y.copy(8, 0, 0, 0, 1), 1);
        stays(x, "drop, bad", y -> y.drop(8), 1);
        stays(x, "wanted, bad", y -> y.wanted(9, 0, 0, 0), 1);
        stays(x, "as, bad", y -> y.as(9, 0), 1);
        stays(x, "minutes", y -> y.minutes(1), 1);
        stays(x, "minutes, bad", y -> y.minutes(0), 1);
        stays(x, "table", y -> y.table(), 1);
        stays(x, "ask", y -> y.ask(0, 0), 1);
        stays(x, "restore", y -> y.restore(0), 1);
        stays(x, "count", y -> y.count(0), 1);
        fine(x, "row", y -> y.row(3, 0, 6));
        fine(x, "set", y -> y.set(3, 0, 6));
        fine(x, "copy", y -> y.copy(3, 0, 3, 0, 6));
        fine(x, "wanted", y -> y.wanted(0, 0, 3, 0));
        fine(x, "drop", y -> y.drop(3));
        fine(x, "as", y -> y.as(0, 0));
        follows(x, "drop, missing", y -> y.drop(3), 1);
    }

    private static void follows(TurningDishes x, String call, Consumer<TurningDishes> calls, int status) {
        calls.accept(x);
        due("status behind " + call, x.status(), status);
    }

    private static void stays(TurningDishes x, String call, Consumer<TurningDishes> calls, int status) {
        follows(x, call, calls, status);
    }

    private static void fine(TurningDishes x, String call, Consumer<TurningDishes> calls) {
        x.as(0, 5);
        due("status ahead of " + call, x.status(), 3);
        follows(x, call, calls, 0);
    }

    private static void foretellingChangesNothing() {
        TurningDishes x = Texts.table(FOUR);
        x.minutes(2);
        x.row(0, 0, 4);
        x.ahead(30, 1);
        x.dishAhead(0, 30);
        x.guestAhead(0, 30);
        x.last(0, 0);
        x.hungry(30);
        x.rest();
        x.served();
        x.laid(20, 0);
        x.wanted(0, 30, 0, 0);
        x.seated(0, 30, 0);
        int[] counts = {1, 4, 2, 0, 10, 2, 0};
        for (int what = 0; what < counts.length; what++) {
            due("count " + what + " as it was", x.count(what), counts[what]);
        }
        for (int i = 0; i < 4; i++) {
            due("seat as it was", x.guest(i, 0), i);
            due("slot as it was", x.dish(i, 1), i);
        }
        due("wants as it was", x.guest(0, 1), 2);
        due("it goes on as it would", x.minutes(2), 1);
    }
}
