import java.util.ArrayList;
import java.util.List;
import java.util.function.Consumer;
import java.util.function.ToIntFunction;

/**
 * "What is refused, or found, changes nothing but status()": two objects are brought to the same state, one of
 * them is asked for what is refused, and then all that can be got out of both is compared.
 */
public final class RefusalsTest {
    private record Call(String name, ToIntFunction<TurningDishes> made, int due) {
    }

    private final Consumer<TurningDishes> state;
    private final List<Call> calls = new ArrayList<>();

    private RefusalsTest(Consumer<TurningDishes> state) {
        this.state = state;
    }

    public static void main(String[] args) {
        Check.says("What is refused, or found, changes nothing but status().");
        ofNoTable().compare();
        ofATable().compare();
        ofAFullOne().compare();
        Check.says("FORETOLD (nothing changes).");
        foretold().compare();
        Check.says("all but the tape, and what fault() tells, stays.");
        faults();
        Check.end();
    }

    private RefusalsTest call(String name, int due, ToIntFunction<TurningDishes> made) {
        calls.add(new Call(name, made, due));
        return this;
    }

    /** A call that is not refused: what is due is what it answers on another object in that state. */
    private RefusalsTest look(String name, ToIntFunction<TurningDishes> made) {
        int due = made.applyAsInt(made());
        Check.holds(name + " is not refused", due > Due.BAD);
        return call(name, due, made);
    }

    private TurningDishes made() {
        TurningDishes x = new TurningDishes();
        state.accept(x);
        return x;
    }

    private void compare() {
        int status = made().status();
        List<Integer> due = Readout.of(made());
        for (Call call : calls) {
            TurningDishes x = made();
            int got = call.made().applyAsInt(x);
            Check.due(call.name(), got, call.due());
            boolean found = call.due() <= Due.NULL && call.due() >= Due.STORE;
            Check.due("status() behind " + call.name(), x.status(), found ? -1000010 - call.due() : status);
            Check.holds("nothing else is another behind " + call.name(), Readout.of(x).equals(due));
        }
    }

    private static void noTable(TurningDishes x) {
        x.row(0, 0, 5);
        x.set(0, 2, 3);
        x.row(1, 1, 40);
        Texts.feed(x, "guest deaf 9;");
        x.table();
        x.as(0, 0);
        x.set(2, 0, 0);
        Texts.feed(x, "guest drunk 1;dish 7");
    }

    private static RefusalsTest ofNoTable() {
        return new RefusalsTest(RefusalsTest::noTable)
                .call("minutes(1)", Due.STATE, x -> x.minutes(1))
                .call("minutes(25)", Due.STATE, x -> x.minutes(25))
                .call("turn(1)", Due.STATE, x -> x.turn(1))
                .call("turn(10)", Due.STATE, x -> x.turn(10))
                .call("fill(0, 1)", Due.BAD, x -> x.fill(0, 1))
                .call("change(0, 1)", Due.BAD, x -> x.change(0, 1))
                .call("lay(0, 1)", Due.BAD, x -> x.lay(0, 1))
                .call("undo()", Due.STATE, TurningDishes::undo)
                .call("guest(0, 0)", Due.BAD, x -> x.guest(0, 0))
                .call("dish(0, 0)", Due.BAD, x -> x.dish(0, 0))
                .call("ahead(1, 0)", Due.STATE, x -> x.ahead(1, 0))
                .call("dishAhead(0, 1)", Due.BAD, x -> x.dishAhead(0, 1))
                .call("guestAhead(0, 1)", Due.BAD, x -> x.guestAhead(0, 1))
                .call("last(0, 0)", Due.BAD, x -> x.last(0, 0))
                .call("hungry(1)", Due.STATE, x -> x.hungry(1))
                .call("rest()", Due.STATE, TurningDishes::rest)
                .call("served()", Due.STATE, TurningDishes::served)
                .call("laid(1, -1)", Due.STATE, x -> x.laid(1, -1))
                .call("wanted(0, 0, 0, 0)", Due.BAD, x -> x.wanted(0, 0, 0, 0))
                .call("seated(0, 1, 0)", Due.BAD, x -> x.seated(0, 1, 0))
                .call("image(0)", Due.STATE, x -> x.image(0))
                .call("image(2)", Due.BAD, x -> x.image(2))
                .call("restore(0)", Due.STATE, x -> x.restore(0))
                .call("restore(2)", Due.BAD, x -> x.restore(2))
                .call("kind(0)", Due.BAD, x -> x.kind(0))
                .call("as(0, 0)", Due.BAD, x -> x.as(0, 0))
                .call("ask(0, 0)", Due.BAD, x -> x.ask(0, 0))
                .call("set(2, 0, 9)", Due.NULL, x -> x.set(2, 0, 9))
                .call("count(7)", Due.BAD, x -> x.count(7))
                .call("trace(0)", Due.NONE, x -> x.trace(0));
    }

    /** Something of everything; image 1 and rows 2 to 6 are not there. */
    private static void someTable(TurningDishes x) {
        x.row(0, 0, 5);
        x.set(0, 2, 3);
        x.row(1, 1, 40);
        x.set(1, 39, 3);
        x.row(7, 2, 0);
        Texts.feed(x, "guest deaf 9;");
        x.table();
        Texts.feed(x, "guest eater 2;guest fast 1;guest greedy 0;guest drunk 3;dish 4;dish 5;dish 1;dish 2;");
        x.table();
        x.minutes(3);
        x.turn(1);
        x.image(0);
        x.fill(3, 2);
        x.change(0, 2);
        x.lay(1, 3);
        x.minutes(1);
        x.ask(1, 0);
        Texts.feed(x, "guest drunk 1;dish 7");
        x.as(0, 5);
    }

    private static RefusalsTest ofATable() {
        RefusalsTest test = new RefusalsTest(RefusalsTest::someTable);
        refusedOfRows(test);
        refusedOfMinutes(test);
        refusedOfForetold(test);
        refusedOfAsks(test);
        return test;
    }

    private static void refusedOfRows(RefusalsTest test) {
        test.call("row(8, 0, 1)", Due.BAD, x -> x.row(8, 0, 1))
                .call("row(0, 3, 1)", Due.BAD, x -> x.row(0, 3, 1))
                .call("row(0, 0, 41)", Due.BAD, x -> x.row(0, 0, 41))
                .call("row(0, 1, -1)", Due.SIZE, x -> x.row(0, 1, -1))
                .call("row(2, 1, -1)", Due.SIZE, x -> x.row(2, 1, -1))
                .call("set(8, 0, 9)", Due.BAD, x -> x.set(8, 0, 9))
                .call("set(2, 0, 9)", Due.NULL, x -> x.set(2, 0, 9))
                .call("set(0, 5, 9)", Due.PLACE, x -> x.set(0, 5, 9))
                .call("set(7, 0, 9)", Due.PLACE, x -> x.set(7, 0, 9))
                .call("copy(0, 0, 8, 0, 1)", Due.BAD, x -> x.copy(0, 0, 8, 0, 1))
                .call("copy(0, 0, 2, 0, 1)", Due.NULL, x -> x.copy(0, 0, 2, 0, 1))
                .call("copy(0, 0, 1, 0, 5)", Due.STORE, x -> x.copy(0, 0, 1, 0, 5))
                .call("copy(0, 2, 0, 0, 4)", Due.PLACE, x -> x.copy(0, 2, 0, 0, 4))
                .call("copy(0, 0, 0, 2, 4)", Due.PLACE, x -> x.copy(0, 0, 0, 2, 4))
                .call("copy(0, 2, 0, 0, -1)", Due.PLACE, x -> x.copy(0, 2, 0, 0, -1))
                .call("drop(8)", Due.BAD, x -> x.drop(8))
                .call("drop(2)", Due.NULL, x -> x.drop(2));
    }

    private static void refusedOfMinutes(RefusalsTest test) {
        test.call("feed(0, 0)", Due.BAD, x -> x.feed(0, 0))
                .call("feed(0, 9)", Due.BAD, x -> x.feed(0, 9))
                .call("minutes(0)", Due.BAD, x -> x.minutes(0))
                .call("minutes(25)", Due.BAD, x -> x.minutes(25))
                .call("turn(10)", Due.BAD, x -> x.turn(10))
                .call("turn(-10)", Due.BAD, x -> x.turn(-10))
                .call("fill(0, 0)", Due.BAD, x -> x.fill(0, 0))
                .call("fill(0, 31)", Due.BAD, x -> x.fill(0, 31))
                .call("fill(4, 1)", Due.BAD, x -> x.fill(4, 1))
                .call("change(1, 1)", Due.BAD, x -> x.change(1, 1))
                .call("change(0, 4)", Due.BAD, x -> x.change(0, 4))
                .call("lay(1, 1)", Due.BAD, x -> x.lay(1, 1))
                .call("lay(4, 0)", Due.BAD, x -> x.lay(4, 0))
                .call("guest(4, 0)", Due.BAD, x -> x.guest(4, 0))
                .call("guest(0, 4)", Due.BAD, x -> x.guest(0, 4))
                .call("dish(4, 0)", Due.BAD, x -> x.dish(4, 0))
                .call("dish(0, 2)", Due.BAD, x -> x.dish(0, 2));
    }

    private static void refusedOfForetold(RefusalsTest test) {
        test.call("ahead(100, 0)", Due.BAD, x -> x.ahead(100, 0))
                .call("dishAhead(4, 1)", Due.BAD, x -> x.dishAhead(4, 1))
                .call("guestAhead(0, 100)", Due.BAD, x -> x.guestAhead(0, 100))
                .call("last(0, 2)", Due.BAD, x -> x.last(0, 2))
                .call("hungry(-1)", Due.BAD, x -> x.hungry(-1))
                .call("laid(21, 0)", Due.BAD, x -> x.laid(21, 0))
                .call("laid(1, 4)", Due.BAD, x -> x.laid(1, 4))
                .call("wanted(4, 0, 0, 0)", Due.BAD, x -> x.wanted(4, 0, 0, 0))
                .call("wanted(0, 0, 2, 0)", Due.NULL, x -> x.wanted(0, 0, 2, 0))
                .call("wanted(0, 0, 0, 2)", Due.PLACE, x -> x.wanted(0, 0, 0, 2))
                .call("seated(4, 1, 0)", Due.BAD, x -> x.seated(4, 1, 0))
                .call("image(2)", Due.BAD, x -> x.image(2))
                .call("image(-1)", Due.BAD, x -> x.image(-1))
                .call("restore(2)", Due.BAD, x -> x.restore(2))
                .call("restore(1)", Due.STATE, x -> x.restore(1));
    }

    private static void refusedOfAsks(RefusalsTest test) {
        test.call("kind(4)", Due.BAD, x -> x.kind(4))
                .call("as(4, 0)", Due.BAD, x -> x.as(4, 0))
                .call("as(0, 6)", Due.BAD, x -> x.as(0, 6))
                .call("as(1, 3)", Due.KIND, x -> x.as(1, 3))
                .call("ask(4, 0)", Due.BAD, x -> x.ask(4, 0))
                .call("ask(0, 2)", Due.BAD, x -> x.ask(0, 2))
                .call("trace(6)", Due.NONE, x -> x.trace(6))
                .call("count(7)", Due.BAD, x -> x.count(7));
    }

    /** Nothing more goes in: 8 rows, 999 minutes, 24 acts, 99 portions, 300 bytes. */
    private static void fullTable(TurningDishes x) {
        for (int row = 0; row < 8; row++) {
            x.row(row, row % 3, 40);
            x.set(row, 39, 3);
        }
        Texts.feed(x, "guest drunk 5;".repeat(6) + "dish 30;dish 30;");
        x.table();
        for (int i = 0; i < 41; i++) {
            x.minutes(24);
        }
        x.minutes(15);
        x.fill(1, 30);
        x.fill(1, 30);
        x.fill(1, 30);
        x.fill(1, 9);
        x.ask(0, 1);
        x.image(0);
        Texts.feed(x, " ".repeat(299) + "!");
    }

    private static RefusalsTest ofAFullOne() {
        return new RefusalsTest(RefusalsTest::fullTable)
                .call("feed(0x3b, 1)", Due.FULL, x -> x.feed(0x3b, 1))
                .call("feed(0x3b3b3b3b3b3b3b3b, 8)", Due.FULL, x -> x.feed(0x3b3b3b3b3b3b3b3bL, 8))
                .call("feed(0, 9)", Due.BAD, x -> x.feed(0, 9))
                .call("minutes(1)", Due.FULL, x -> x.minutes(1))
                .call("minutes(24)", Due.FULL, x -> x.minutes(24))
                .call("minutes(25)", Due.BAD, x -> x.minutes(25))
                .call("fill(1, 1)", Due.FULL, x -> x.fill(1, 1))
                .call("fill(1, 30)", Due.FULL, x -> x.fill(1, 30))
                .call("fill(1, 31)", Due.BAD, x -> x.fill(1, 31))
                .call("fill(6, 30)", Due.BAD, x -> x.fill(6, 30))
                .call("row(8, 0, 1)", Due.BAD, x -> x.row(8, 0, 1))
                .call("row(7, 0, -1)", Due.SIZE, x -> x.row(7, 0, -1))
                .call("set(7, 40, 9)", Due.PLACE, x -> x.set(7, 40, 9))
                .call("copy(0, 1, 3, 0, 40)", Due.PLACE, x -> x.copy(0, 1, 3, 0, 40))
                .call("restore(1)", Due.STATE, x -> x.restore(1));
    }

    /** wanted() and as() may change status(), to 0 where they find nothing: so it is 0 ahead of all. */
    private static RefusalsTest foretold() {
        return new RefusalsTest(x -> {
            someTable(x);
            x.as(0, 0);
        })
                .look("ahead(99, 0)", x -> x.ahead(99, 0))
                .look("dishAhead(3, 99)", x -> x.dishAhead(3, 99))
                .look("guestAhead(3, 99)", x -> x.guestAhead(3, 99))
                .look("last(0, 0)", x -> x.last(0, 0))
                .look("hungry(99)", x -> x.hungry(99))
                .look("rest()", TurningDishes::rest)
                .look("served()", TurningDishes::served)
                .look("laid(20, 3)", x -> x.laid(20, 3))
                .look("wanted(0, 99, 1, 36)", x -> x.wanted(0, 99, 1, 36))
                .look("seated(0, 99, 0)", x -> x.seated(0, 99, 0))
                .look("guest(3, 3)", x -> x.guest(3, 3))
                .look("dish(3, 1)", x -> x.dish(3, 1))
                .look("kind(3)", x -> x.kind(3))
                .look("as(3, 4)", x -> x.as(3, 4))
                .look("fault()", TurningDishes::fault)
                .look("trace(0)", x -> x.trace(0))
                .look("count(0)", x -> x.count(0))
                .look("status()", TurningDishes::status);
    }

    /** A text with a fault, read, leaves the same as none: both objects' tapes are emptied ahead of it. */
    private static void faults() {
        String[] texts = {"", "guest", "guest deaf 6;", "guest deaf 0;dish 1;dish 1;", "guest deaf 0;".repeat(7),
            "guest deaf 0;!"};
        for (String text : texts) {
            TurningDishes x = emptied();
            Texts.feed(x, text);
            Check.holds("a fault of " + text, x.table() <= -1000100);
            Check.due("status() behind " + text, x.status(), 3);
            List<Integer> got = Readout.of(x);
            List<Integer> due = Readout.of(emptied());
            Check.holds("a fault is told", got.remove(0) > 0 && due.remove(0) > 0);
            Check.holds("nothing else is another behind " + text, got.equals(due));
        }
    }

    private static TurningDishes emptied() {
        TurningDishes x = new TurningDishes();
        someTable(x);
        x.table();
        return x;
    }
}
