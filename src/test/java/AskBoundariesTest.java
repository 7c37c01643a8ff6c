import java.util.function.ToIntFunction;

/** The edges that the document names of a new object, of kinds, asks, counts, the status: promises 1, 29 to 34. */
public final class AskBoundariesTest {
    private static final String KINDS = "guest eater 1;guest fast 1;guest greedy 1;guest deaf 1;guest drunk 1;";

    private AskBoundariesTest() {
    }

    public static void main(String[] args) {
        refusalsAsNumbered();
        newObject();
        refusalsInOrder();
        call512();
        kindRefused();
        kindsAsTold();
        asFirstAndLastKind();
        asNoSuchOne();
        askRefused();
        sizeOfNothingEaten();
        sizeOfWhatIsEaten();
        markOfFirstAndLast();
        traceFirstAndLast();
        traceOfEachAsk();
        traceEmptyAheadOfAnAsk();
        countRefused();
        countNone();
        countMost();
        statusAtFirst();
        statusOfEachFinding();
        statusOfNoFinding();
        statusOfWhatWasRefused();
        statusOfOtherCalls();
        Check.end();
    }

    private static void due(String call, long got, long want) {
        Check.due(call, got, want);
    }

    private static void refusalsAsNumbered() {
        Check.says("NONE = -1000000, BAD = -1000001, STATE = -1000002, FULL = -1000003");
        due("NONE", TurningDishes.NONE, Due.NONE);
        due("BAD", TurningDishes.BAD, Due.BAD);
        due("STATE", TurningDishes.STATE, Due.STATE);
        due("FULL", TurningDishes.FULL, Due.FULL);
    }

    private static void newObject() {
        Check.says("`TurningDishes()`: No TABLE.");
        TurningDishes x = new TurningDishes();
        for (int what = 0; what <= 6; what++) {
            due("count " + what, x.count(what), 0);
        }
        due("fault", x.fault(), 0);
        due("status", x.status(), 0);
        due("trace", x.trace(0), Due.NONE);
        due("no guest", x.guest(0, 0), Due.BAD);
        due("no dish", x.dish(0, 0), Due.BAD);
        TurningDishes y = Texts.table(KINDS);
        y.row(0, 0, 1);
        y.image(0);
        due("each has its own table", x.count(1), 0);
        due("each has its own rows", x.drop(0), Due.NULL);
        due("each has its own images", x.restore(0), Due.STATE);
    }

    private static void refusalsInOrder() {
        Check.says("Refusals are answers, the first of these that fits, but as told: BAD");
        TurningDishes x = new TurningDishes();
        due("BAD ahead of STATE: image", x.image(2), Due.BAD);
        due("BAD ahead of STATE: restore", x.restore(2), Due.BAD);
        due("as told, STATE ahead of BAD: minutes", x.minutes(0), Due.STATE);
        due("as told, STATE ahead of BAD: turn", x.turn(10), Due.STATE);
        due("as told, STATE ahead of BAD: ahead", x.ahead(100, 2), Due.STATE);
        due("as told, STATE ahead of BAD: hungry", x.hungry(100), Due.STATE);
        due("as told, STATE ahead of BAD: laid", x.laid(21, 6), Due.STATE);
        due("BAD ahead of a finding: row", x.row(8, 0, -1), Due.BAD);
        due("BAD ahead of a finding: set", x.set(8, 0, 0), Due.BAD);
        due("BAD ahead of a finding: copy", x.copy(0, 0, 8, 0, 0), Due.BAD);
        due("BAD ahead of a finding: wanted", x.wanted(0, 0, 0, 0), Due.BAD);
        Texts.feed(x, "guest deaf 0;dish 0;");
        x.table();
        due("BAD ahead of a finding: as", x.as(1, 2), Due.BAD);
        due("BAD ahead of a finding: as, kind", x.as(0, 6), Due.BAD);
    }

    private static void call512() {
        Check.says("An object is used for at most 512 calls after it has been made");
        TurningDishes x = new TurningDishes();
        Texts.feed(x, "guest drunk 5;".repeat(3) + "dish 9;");
        int calls = 49 / 8 + 1;
        due("table, call " + ++calls, x.table(), 3);
        for (int minute = 1; calls < 511; minute++) {
            due("minutes, call " + ++calls, x.minutes(1), minute % 3);
        }
        due("the 512th call: as many minutes as calls since the 8th", x.count(2), 511 - 8);
    }

    private static void kindRefused() {
        Check.says("The KIND of a GUEST, as told (1 to 5). BAD.");
        for (int n = 1; n <= 6; n++) {
            TurningDishes x = Texts.table("guest deaf 0;".repeat(n - 1) + "guest drunk 0;");
            due("the last of " + n, x.kind(n - 1), 5);
            for (int guest : new int[] {n, -1, 6, Due.LOW, Due.HIGH}) {
                due("guest " + guest + " of " + n, x.kind(guest), Due.BAD);
            }
        }
        due("no table", new TurningDishes().kind(0), Due.BAD);
    }

    private static void kindsAsTold() {
        Check.says("The KIND of a GUEST, as told (1 to 5). BAD.");
        TurningDishes x = Texts.table(KINDS);
        x.change(0, 4);
        for (int guest = 0; guest < 5; guest++) {
            due("guest " + guest, x.kind(guest), guest + 1);
        }
        x.as(1, 1);
        due("taken as an eater, a fast one yet", x.kind(1), 2);
    }

    private static void asFirstAndLastKind() {
        Check.says("A GUEST is taken as one of a KIND (0 .. 5): the GUEST's number.");
        TurningDishes x = Texts.table(KINDS);
        for (int guest = 0; guest < 5; guest++) {
            due(guest + " as a guest", x.as(guest, 0), guest);
            due(guest + " as what he is", x.as(guest, guest + 1), guest);
        }
        for (int kind : new int[] {-1, 6, 7, Due.LOW, Due.HIGH}) {
            due("kind " + kind, x.as(0, kind), Due.BAD);
        }
        for (int guest : new int[] {-1, 5, 6, Due.LOW, Due.HIGH}) {
            due("guest " + guest, x.as(guest, 0), Due.BAD);
        }
        due("no table", new TurningDishes().as(0, 0), Due.BAD);
    }

    private static void asNoSuchOne() {
        Check.says("1 EATER, a GUEST; 2 FAST, an EATER; 3 GREEDY, an EATER; 4 DEAF, a GUEST; 5 DRUNK, a DEAF one.");
        TurningDishes x = Texts.table(KINDS);
        String[] are = {"yy....", "yyy...", "yy.y..", "y...y.", "y...yy"};
        for (int guest = 0; guest < 5; guest++) {
            for (int kind = 0; kind <= 5; kind++) {
                boolean is = are[guest].charAt(kind) == 'y';
                due(guest + " as " + kind, x.as(guest, kind), is ? guest : Due.KIND);
            }
        }
    }

    private static void askRefused() {
        Check.says("An ASK (0, 1) of a GUEST. BAD.");
        TurningDishes x = Texts.table(KINDS);
        due("SIZE of the first", x.ask(0, 0), 1);
        due("MARK of the last", x.ask(4, 1), 204);
        for (int what : new int[] {-1, 2, 10, Due.LOW, Due.HIGH}) {
            due("ask " + what, x.ask(0, what), Due.BAD);
        }
        for (int guest : new int[] {-1, 5, 6, Due.LOW, Due.HIGH}) {
            due("guest " + guest, x.ask(guest, 0), Due.BAD);
        }
        due("no table", new TurningDishes().ask(0, 0), Due.BAD);
    }

    private static void sizeOfNothingEaten() {
        Check.says("0 SIZE: 10 lent to all GUESTS: what he has EATEN.");
        TurningDishes x = Texts.table("guest eater 0;guest fast 0;guest greedy 0;guest deaf 0;guest drunk 0;");
        int[] sizes = {0, -(0 + 2 * 1), 0 + 2 - 1000, 0 - 100, 2 * (0 - 100)};
        for (int guest = 0; guest < 5; guest++) {
            due("of " + guest, x.ask(guest, 0), sizes[guest]);
        }
    }

    private static void sizeOfWhatIsEaten() {
        Check.says("0 SIZE: 10 lent to all GUESTS: what he has EATEN.");
        TurningDishes x = Texts.table("guest deaf 0;guest greedy 5;dish 30;dish 30;");
        for (int eaten = 1; eaten <= 12; eaten++) {
            x.minutes(2);
            due("of a deaf one", x.ask(0, 0), eaten - 100);
            due("of a greedy one", x.ask(1, 0), eaten + 1 + 5 - 1000);
        }
        x.undo();
        due("undone: of a greedy one", x.ask(1, 0), 11 + 1 + 5 - 1000);
        due("undone: of a deaf one", x.ask(0, 0), 12 - 100);
        due("MARK of a deaf one, less SIZE", x.ask(0, 1), 0 - (12 - 100));
    }

    private static void markOfFirstAndLast() {
        Check.says("1 MARK: 20 lent to all GUESTS: his number.");
        String[] sorts = {"eater", "fast", "greedy", "deaf", "drunk"};
        for (int sort = 0; sort < 5; sort++) {
            TurningDishes x = Texts.table(("guest " + sorts[sort] + " 5;").repeat(6));
            for (int guest = 0; guest < 6; guest++) {
                int[] marks = {guest + 5, 2 * (guest + 5), guest + 5 - 1000, guest + 100, guest + 200};
                due("of " + sorts[sort] + " " + guest, x.ask(guest, 1), marks[sort]);
            }
            x.change(0, 5);
            int[] first = {5, 10, -995, 100, 200};
            due("his number, not his seat", x.ask(0, 1), first[sort]);
        }
    }

    private static void traceFirstAndLast() {
        Check.says("Number i of THE TRACE; NONE.");
        TurningDishes x = Texts.table(KINDS);
        x.ask(1, 0);
        int[] trace = {12, 11, 10, 24, 21, 20};
        for (int i = 0; i < trace.length; i++) {
            due("number " + i, x.trace(i), trace[i]);
        }
        for (int i : new int[] {6, 7, 15, 16, 17, -1, Due.LOW, Due.HIGH}) {
            due("number " + i, x.trace(i), Due.NONE);
        }
    }

    private static void traceOfEachAsk() {
        Check.says("Of an ask the BODY told for the KIND begins, else that of the nearest KIND that it is, too");
        TurningDishes x = Texts.table(KINDS);
        int[][] sizes = {{11, 10, 21, 20}, {12, 11, 10, 24, 21, 20}, {11, 10, 22, 21, 20}, {13, 10}, {14, 13, 10}};
        int[][] marks = {{21, 20}, {24, 21, 20}, {22, 21, 20}, {23, 20, 13, 10}, {23, 20, 14, 13, 10}};
        for (int guest = 0; guest < 5; guest++) {
            x.ask(guest, 0);
            traced(x, sizes[guest]);
            x.ask(guest, 1);
            traced(x, marks[guest]);
        }
    }

    private static void traced(TurningDishes x, int[] trace) {
        for (int i = 0; i < 7; i++) {
            due("number " + i, x.trace(i), i < trace.length ? trace[i] : Due.NONE);
        }
    }

    private static void traceEmptyAheadOfAnAsk() {
        Check.says("THE TRACE is empty ahead of it (where that is refused it stays).");
        TurningDishes x = new TurningDishes();
        due("empty at first", x.trace(0), Due.NONE);
        x.ask(0, 0);
        due("empty behind what was refused", x.trace(0), Due.NONE);
        Texts.feed(x, KINDS);
        x.table();
        due("empty with a table", x.trace(0), Due.NONE);
        x.ask(1, 0);
        x.ask(5, 0);
        x.ask(-1, 0);
        x.ask(3, 2);
        x.ask(3, -1);
        traced(x, new int[] {12, 11, 10, 24, 21, 20});
        x.ask(3, 0);
        traced(x, new int[] {13, 10});
        Texts.feed(x, "guest deaf 0;");
        x.table();
        traced(x, new int[] {13, 10});
        x.ask(4, 0);
        traced(x, new int[] {13, 10});
    }

    private static void countRefused() {
        Check.says("How many: 0 ROWS, 1 GUESTS, 2 MINUTES gone, 3 TURN, 4 PORTIONS of all, "
                + "5 ACTS that can be undone, 6 bytes on the tape. BAD.");
        TurningDishes x = Texts.table(KINDS);
        for (int what : new int[] {-1, 7, 8, 256, Due.LOW, Due.HIGH}) {
            due("count " + what, x.count(what), Due.BAD);
            due("no table, count " + what, new TurningDishes().count(what), Due.BAD);
        }
        due("count 0", x.count(0), 0);
        due("count 6", x.count(6), 0);
    }

    private static void countNone() {
        Check.says("How many: 0 ROWS, 1 GUESTS");
        TurningDishes x = new TurningDishes();
        for (int what = 0; what <= 6; what++) {
            due("new: count " + what, x.count(what), 0);
        }
        Texts.feed(x, "guest deaf 0;");
        x.table();
        int[] counts = {0, 1, 0, 0, 0, 0, 0};
        for (int what = 0; what <= 6; what++) {
            due("the least table: count " + what, x.count(what), counts[what]);
        }
    }

    private static void countMost() {
        Check.says("How many: 0 ROWS, 1 GUESTS");
        TurningDishes x = Texts.table("guest deaf 5;".repeat(6) + "dish 30;".repeat(6));
        for (int row = 0; row < 8; row++) {
            x.row(row, 2, 40);
        }
        for (int i = 0; i < 41; i++) {
            x.minutes(24);
        }
        x.minutes(15);
        for (int d = 0; d < 6; d++) {
            for (int i = 0; i < 4; i++) {
                x.fill(d, Math.min(30, 99 - x.dish(d, 0)));
            }
        }
        x.turn(5 - x.count(3));
        Texts.feed(x, "x".repeat(300));
        int[] counts = {8, 6, 999, 5, 594, 24, 300};
        for (int what = 0; what <= 6; what++) {
            due("count " + what, x.count(what), counts[what]);
        }
    }

    private static void statusAtFirst() {
        Check.says("0: it had none, or there was none.");
        TurningDishes x = new TurningDishes();
        due("there was none", x.status(), 0);
        x.row(8, 0, 1);
        x.as(0, 0);
        x.minutes(1);
        due("none that counts", x.status(), 0);
        x.drop(0);
        due("one", x.status(), 1);
        x.row(0, 0, 0);
        due("it had none", x.status(), 0);
    }

    private static TurningDishes withRows() {
        TurningDishes x = Texts.table(KINDS);
        x.row(0, 0, 5);
        x.row(1, 1, 5);
        return x;
    }

    private static void finds(String call, ToIntFunction<TurningDishes> calls, int status) {
        TurningDishes x = withRows();
        due(call, calls.applyAsInt(x), -1000010 - status);
        due("status behind " + call, x.status(), status);
        due("status is asked again", x.status(), status);
    }

    private static void statusOfEachFinding() {
        Check.says("-1000010 less 1 NULL (a ROW that is missing), 2 PLACE (no such place of a ROW), "
                + "3 KIND (a GUEST that is not that), 4 SIZE (fewer than none), 5 STORE (ROWS of two LANES)");
        finds("row, SIZE", x -> x.row(0, 0, -1), 4);
        finds("set, NULL", x -> x.set(2, 0, 0), 1);
        finds("set, PLACE", x -> x.set(0, 5, 0), 2);
        finds("copy, NULL", x -> x.copy(0, 0, 2, 0, 0), 1);
        finds("copy, STORE", x -> x.copy(0, 0, 1, 0, 0), 5);
        finds("copy, PLACE", x -> x.copy(0, 0, 0, 0, 6), 2);
        finds("drop, NULL", x -> x.drop(2), 1);
        finds("wanted, NULL", x -> x.wanted(0, 0, 2, 0), 1);
        finds("wanted, PLACE", x -> x.wanted(0, 0, 0, 1), 2);
        finds("as, KIND", x -> x.as(0, 2), 3);
    }

    private static void clears(String call, ToIntFunction<TurningDishes> calls) {
        TurningDishes x = withRows();
        x.as(0, 5);
        due("status ahead of " + call, x.status(), 3);
        Check.holds(call + " is fine", calls.applyAsInt(x) >= 0);
        due("status behind " + call, x.status(), 0);
    }

    private static void statusOfNoFinding() {
        Check.says("Of the latest call with a ROW, or as(), that was not BAD, STATE, FULL");
        clears("row", x -> x.row(2, 0, 0));
        clears("set", x -> x.set(0, 4, 0));
        clears("copy", x -> x.copy(0, 0, 0, 0, 5));
        clears("drop", x -> x.drop(0));
        clears("wanted", x -> x.wanted(0, 0, 0, 0));
        clears("as", x -> x.as(0, 1));
    }

    private static void leaves(String call, ToIntFunction<TurningDishes> calls) {
        TurningDishes x = withRows();
        x.as(0, 5);
        calls.applyAsInt(x);
        due("status behind " + call, x.status(), 3);
    }

    private static void statusOfWhatWasRefused() {
        Check.says("that was not BAD, STATE, FULL");
        leaves("row, ROW", x -> x.row(8, 0, 1));
        leaves("row, LANE", x -> x.row(0, 3, 1));
        leaves("row, 41", x -> x.row(0, 0, 41));
        leaves("set, ROW", x -> x.set(-1, 0, 1));
        leaves("copy, ROW", x -> x.copy(0, 0, 8, 0, 1));
        leaves("drop, ROW", x -> x.drop(8));
        leaves("wanted, GUEST", x -> x.wanted(5, 0, 0, 0));
        leaves("wanted, n", x -> x.wanted(0, 100, 0, 0));
        leaves("wanted, ROW", x -> x.wanted(0, 0, 8, 0));
        leaves("as, GUEST", x -> x.as(5, 0));
        leaves("as, KIND", x -> x.as(0, 6));
    }

    private static void statusOfOtherCalls() {
        Check.says("Of the latest call with a ROW, or as()");
        leaves("feed", x -> x.feed(0, 1));
        leaves("table, a fault", TurningDishes::table);
        leaves("table", x -> {
            Texts.feed(x, "guest deaf 0;");
            return x.table();
        });
        leaves("fault", TurningDishes::fault);
        leaves("minutes", x -> x.minutes(1));
        leaves("turn", x -> x.turn(1));
        leaves("fill", x -> x.fill(0, 1));
        leaves("change", x -> x.change(0, 1));
        leaves("lay", x -> x.lay(0, 1));
        leaves("undo", TurningDishes::undo);
        leaves("guest", x -> x.guest(0, 0));
        leaves("dish", x -> x.dish(0, 0));
        leaves("ahead", x -> x.ahead(1, 0));
        leaves("dishAhead", x -> x.dishAhead(0, 1));
        leaves("guestAhead", x -> x.guestAhead(0, 1));
        leaves("last", x -> x.last(0, 0));
        leaves("hungry", x -> x.hungry(1));
        leaves("rest", TurningDishes::rest);
        leaves("served", TurningDishes::served);
        leaves("laid", x -> x.laid(1, 0));
        leaves("seated", x -> x.seated(0, 1, 0));
        leaves("image", x -> x.image(0));
        leaves("restore", x -> x.image(0) + x.restore(0));
        leaves("kind", x -> x.kind(0));
        leaves("ask", x -> x.ask(0, 0));
        leaves("trace", x -> x.trace(0));
        leaves("count", x -> x.count(0));
    }
}
