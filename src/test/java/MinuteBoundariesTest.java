import java.util.function.IntBinaryOperator;

/** The edges that the document names of the table and its minutes: 'Terms', part 2, and promises 9 to 16. */
public final class MinuteBoundariesTest {
    private static final String NOBODY = "guest deaf 5;";

    private MinuteBoundariesTest() {
    }

    public static void main(String[] args) {
        before();
        beforeSeatsInARing();
        beforeSlotsInARing();
        turnsWrapAround();
        farthestTurns();
        quarter();
        quarterOfWay();
        seatOfAMinute();
        seatAtTheLastMinutes();
        pushForPortions();
        pushForNoSuchDish();
        noPushForWhatLiesBefore();
        wayOfLikeOnes();
        lesserWay();
        deafAndDrunk();
        eatsOfWhatCame();
        eatsOnlyWhatHeWants();
        eatsTwoIfThereAreTwo();
        eatsOfAny();
        actsKept();
        actsOfEachKind();
        actsByWhichNothingBecomesAnother();
        actsAroundAndAround();
        minutesAtOnce();
        minutesGone();
        minutesUndoneAtTheEnd();
        minutesRefused();
        eachMinuteAnAct();
        fillFewestAndMost();
        fillAbove99();
        fillRefused();
        changeAlike();
        layAlike();
        undoNone();
        guestRefused();
        dishRefused();
        Check.end();
    }

    private static void due(String call, long got, long want) {
        Check.due(call, got, want);
    }

    /** n deaf guests who want no dish that a table of five has, before n empty dishes. */
    private static TurningDishes quiet(int n) {
        return Texts.table(NOBODY.repeat(n));
    }

    /** A guest of a sort in SEAT 0 of n; what he wants has portions, the other dishes have others. */
    private static TurningDishes oneOf(int n, String sort, int wants, int portions, int others) {
        StringBuilder text = new StringBuilder("guest " + sort + " " + wants + ";" + "guest deaf 0;".repeat(n - 1));
        for (int d = 0; d < n; d++) {
            text.append("dish ").append(d == wants ? portions : others).append(';');
        }
        return Texts.table(text.toString());
    }

    private static void before() {
        Check.says("BEFORE SEAT g lies SLOT g and TURN, left over by n.");
        for (int n = 1; n <= 6; n++) {
            TurningDishes x = quiet(n);
            for (int turn = 0; turn < n; turn++) {
                for (int g = 0; g < n; g++) {
                    due(n + " guests, TURN " + turn + ", before " + g, x.guest(g, 3), (g + turn) % n);
                }
                x.turn(1);
            }
            due("once around", x.guest(0, 3), 0);
        }
    }

    /** GUEST g comes to sit in SEAT g + 1, the last one in SEAT 0. */
    private static void beforeSeatsInARing() {
        Check.says("two GUESTS change SEATS");
        for (int n = 2; n <= 6; n++) {
            TurningDishes x = Texts.table("guest greedy 5;".repeat(n - 1) + "guest deaf 0;" + "dish 1;".repeat(n));
            for (int g = 0; g < n - 1; g++) {
                due("seat of " + g, x.change(g, g + 1), g + 1);
            }
            for (int g = 0; g < n; g++) {
                due("seat of " + g + " of " + n, x.guest(g, 0), (g + 1) % n);
                due("before " + g + " of " + n, x.guest(g, 3), (g + 1) % n);
            }
            due("of two who sit elsewhere, the first", x.change(0, 1), 2 % n);
            due("of two who sit elsewhere, the second", x.guest(1, 0), 1);
            due("before the second", x.guest(1, 3), 1);
            due("and back", x.change(1, 0), 2 % n);
            x.undo();
            x.undo();
            due("the last one is on in minute 0", x.last(0, 0), n - 1);
            due("he eats it at once", x.last(0, 1), 1);
            x.undo();
            due("a change undone: seat of the last", x.guest(n - 1, 0), n - 1);
            due("a change undone: seat of the one before", x.guest(n - 2, 0), 0);
            x = Texts.table("guest eater 0;" + NOBODY.repeat(n - 1) + "dish 9;");
            for (int g = 0; g < n - 1; g++) {
                x.change(g, g + 1);
            }
            due("guest 0 of " + n + " in seat 1: his dish comes from the right", x.ahead(2, 0), n - 1);
            x = Texts.table("guest eater 0;" + NOBODY.repeat(n - 1) + "dish 9;");
            for (int g = n - 1; g > 0; g--) {
                x.change(g, g - 1);
            }
            due("guest 0 of " + n + " sits in the last seat", x.guest(0, 0), n - 1);
            due("his dish comes from the left", x.ahead(n, 0), 1);
        }
    }

    /** DISH d comes to lie in SLOT d + 1, the last one in SLOT 0. */
    private static void beforeSlotsInARing() {
        Check.says("two DISHES change SLOTS");
        for (int n = 2; n <= 6; n++) {
            TurningDishes x = quiet(n);
            for (int d = 0; d < n - 1; d++) {
                due("slot of " + d, x.lay(d, d + 1), d + 1);
            }
            for (int d = 0; d < n; d++) {
                due("slot of " + d + " of " + n, x.dish(d, 1), (d + 1) % n);
                due("before guest " + d + " of " + n, x.guest(d, 3), (d + n - 1) % n);
            }
            due("of two that lie elsewhere, the first", x.lay(0, 1), 2 % n);
            due("of two that lie elsewhere, the second", x.dish(1, 1), 1);
            due("before guest 1, the second", x.guest(1, 3), 1);
            due("and back", x.lay(1, 0), 2 % n);
            x.undo();
            x.undo();
            x.turn(1);
            due("before guest 0, turned", x.guest(0, 3), 0);
            x.undo();
            x.undo();
            due("a change undone: slot of the last", x.dish(n - 1, 1), n - 1);
            due("a change undone: slot of the one before", x.dish(n - 2, 1), 0);
            due("a change undone: before the last", x.guest(n - 1, 3), n - 1);
            x = Texts.table("guest eater 0;" + NOBODY.repeat(n - 1) + "dish 9;");
            for (int d = 0; d < n - 1; d++) {
                x.lay(d, d + 1);
            }
            due("dish 0 of " + n + " in slot 1: it comes from the left", x.ahead(1, 0), 1);
            x = Texts.table("guest eater 0;" + NOBODY.repeat(n - 1) + "dish 9;");
            for (int d = n - 1; d > 0; d--) {
                x.lay(d, d - 1);
            }
            due("dish 0 of " + n + " lies in the last slot", x.dish(0, 1), n - 1);
            due("it comes from the right", x.ahead(1, 0), n - 1);
        }
    }

    private static void turnsWrapAround() {
        Check.says("To turn to the left by 1 makes TURN 1 more, to the right 1 less, left over by n.");
        for (int n = 1; n <= 6; n++) {
            TurningDishes x = quiet(n);
            for (int i = 1; i <= n; i++) {
                due("left", x.turn(1), i % n);
            }
            for (int i = 1; i <= n; i++) {
                due("right", x.turn(-1), (n - i) % n);
            }
            due("none", x.turn(0), 0);
            due("n", x.turn(n), 0);
            due("-n", x.turn(-n), 0);
        }
    }

    private static void farthestTurns() {
        Check.says("The host turns the middle by n to the left (-9 to 9; below 0: to the right): TURN.");
        for (int n = 1; n <= 6; n++) {
            TurningDishes x = quiet(n);
            for (int k = -9; k <= 9; k++) {
                int was = x.count(3);
                due("turn " + k + " of " + n, x.turn(k), Math.floorMod(was + k, n));
            }
        }
        TurningDishes x = quiet(4);
        x.turn(1);
        for (int k : new int[] {10, -10, 11, 256, Due.LOW, Due.HIGH}) {
            due("turn " + k, x.turn(k), Due.BAD);
        }
        due("TURN stays", x.count(3), 1);
        due("no act", x.count(5), 1);
        due("no table, and bad", new TurningDishes().turn(10), Due.STATE);
        due("no table, and fine", new TurningDishes().turn(0), Due.STATE);
    }

    private static void quarter() {
        Check.says("A QUARTER is n by 4 (cut), 1 at least.");
        for (int n = 2; n <= 6; n++) {
            for (int wants = 1; wants < n; wants++) {
                TurningDishes x = oneOf(n, "eater", wants, 9, 0);
                due(n + " guests, " + wants + " to the left", x.minutes(1), 2 * wants <= n ? 1 : n - 1);
                x = oneOf(n, "eater", wants, 9, 0);
                due("no more than a quarter", x.ahead(1, 1), 1);
            }
        }
        TurningDishes x = oneOf(1, "eater", 0, 9, 0);
        due("one guest: nothing to push", x.ahead(99, 1), 0);
        due("one guest, a drunk one: 1", oneOf(1, "drunk", 0, 9, 0).ahead(99, 1), 99);
    }

    private static void quarterOfWay() {
        Check.says("as much as that, a QUARTER at most");
        TurningDishes x = oneOf(6, "greedy", 3, 9, 0);
        int[] turns = {1, 2, 3, 3};
        for (int turn : turns) {
            due("a quarter each round", x.minutes(6), turn);
        }
        due("pushed till it is there", oneOf(6, "greedy", 3, 9, 0).ahead(99, 1), 3);
    }

    private static void seatOfAMinute() {
        Check.says("In a MINUTE the GUEST is on who sits in SEAT MINUTE left over by n.");
        for (int n = 1; n <= 6; n++) {
            TurningDishes x = Texts.table("guest greedy 5;".repeat(n) + "dish 30;".repeat(n));
            for (int minute = 0; minute < 2 * n + 1; minute++) {
                x.minutes(1);
                for (int g = 0; g < n; g++) {
                    due(n + " guests, behind minute " + minute + ", eaten by " + g,
                            x.guest(g, 2), (minute + n - g) / n);
                }
            }
        }
        TurningDishes x = Texts.table("guest greedy 5;guest greedy 5;guest greedy 5;dish 3;dish 3;dish 3;");
        x.change(0, 2);
        x.minutes(1);
        due("he who sits there now", x.guest(2, 2), 1);
        due("not he of that number", x.guest(0, 2), 0);
    }

    private static void seatAtTheLastMinutes() {
        Check.says("In a MINUTE the GUEST is on who sits in SEAT MINUTE left over by n.");
        TurningDishes x = Texts.table("guest greedy 5;".repeat(5) + "dish 0;".repeat(5));
        for (int i = 0; i < 41; i++) {
            x.minutes(24);
        }
        x.minutes(14);
        due("gone", x.count(2), 998);
        x.fill(3, 1);
        x.fill(2, 1);
        due("in minute 998 seat 3 is on", x.last(3, 1), 1);
        x.minutes(1);
        due("he ate", x.guest(3, 2), 1);
        due("he of seat 2 did not", x.guest(2, 2), 0);
        due("behind 999 minutes seat 2 comes when all are through", x.last(2, 1), 4);
    }

    private static void pushForPortions() {
        Check.says("An eater, a fast one, a greedy one PUSHES, if what he WANTS has PORTIONS");
        for (String sort : new String[] {"eater", "fast", "greedy"}) {
            due(sort + ", none", oneOf(3, sort, 1, 0, 9).minutes(1), 0);
            due(sort + ", one", oneOf(3, sort, 1, 1, 9).minutes(1), 1);
            due(sort + ", 30", oneOf(3, sort, 1, 30, 0).minutes(1), 1);
            TurningDishes x = oneOf(3, sort, 1, 1, 0);
            x.minutes(1);
            x.turn(-1);
            x.minutes(2);
            due(sort + ", eaten up since", x.minutes(1), 0);
            x.fill(1, 1);
            x.minutes(2);
            due(sort + ", filled up since", x.minutes(1), 1);
        }
    }

    private static void pushForNoSuchDish() {
        Check.says("maybe none that there is");
        for (String sort : new String[] {"eater", "fast", "greedy", "deaf"}) {
            for (int n = 1; n <= 5; n++) {
                TurningDishes x = Texts.table(("guest " + sort + " " + n + ";").repeat(n) + "dish 9;".repeat(n));
                due(sort + " of " + n + ": TURN", x.ahead(99, 0), 0);
                due(sort + " of " + n + ": pushed", x.ahead(99, 1), 0);
                due(sort + " of " + n + ": eats", x.guestAhead(0, n), sort.equals("greedy") ? 1 : 0);
            }
        }
    }

    private static void noPushForWhatLiesBefore() {
        Check.says("and does not lie BEFORE him");
        for (String sort : new String[] {"eater", "fast", "greedy"}) {
            for (int n = 1; n <= 6; n++) {
                TurningDishes x = oneOf(n, sort, 0, 30, 0);
                due(sort + " of " + n, x.ahead(1, 1), 0);
                due(sort + " of " + n + ": eats", x.guestAhead(0, 1), sort.equals("fast") ? 2 : 1);
                x.turn(n);
                due(sort + " of " + n + ", once around", x.ahead(1, 1), 0);
            }
        }
    }

    private static void wayOfLikeOnes() {
        Check.says("of like ones to the left");
        due("1 and 1", oneOf(2, "eater", 1, 9, 0).minutes(1), 1);
        due("2 and 2", oneOf(4, "eater", 2, 9, 0).minutes(1), 1);
        due("3 and 3", oneOf(6, "eater", 3, 9, 0).minutes(1), 1);
        TurningDishes x = oneOf(4, "eater", 0, 9, 0);
        x.turn(2);
        due("2 and 2, across the end", x.minutes(1), 3);
        x = oneOf(6, "eater", 0, 9, 0);
        x.turn(3);
        due("3 and 3, across the middle", x.minutes(1), 4);
    }

    private static void lesserWay() {
        Check.says("the way by which it is less to bring it there");
        due("of 3, 2 left, 1 right", oneOf(3, "fast", 2, 9, 0).minutes(1), 2);
        due("of 3, 1 left, 2 right", oneOf(3, "fast", 1, 9, 0).minutes(1), 1);
        due("of 5, 2 left, 3 right", oneOf(5, "fast", 2, 9, 0).minutes(1), 1);
        due("of 5, 3 left, 2 right", oneOf(5, "fast", 3, 9, 0).minutes(1), 4);
        due("of 6, 4 left, 2 right", oneOf(6, "fast", 4, 9, 0).minutes(1), 5);
        TurningDishes x = oneOf(5, "fast", 0, 9, 0);
        x.turn(4);
        due("left across the end", x.minutes(1), 0);
        x = oneOf(5, "fast", 4, 9, 0);
        due("right across the end", x.minutes(1), 4);
        x = Texts.table("guest deaf 5;guest deaf 5;guest deaf 5;guest deaf 5;guest eater 0;dish 9;");
        due("of the last seat: left across the end", x.ahead(5, 0), 1);
    }

    private static void deafAndDrunk() {
        Check.says("A deaf one does not; a drunk one PUSHES by 1 to the left, always.");
        due("deaf, for portions", oneOf(3, "deaf", 1, 9, 9).ahead(1, 1), 0);
        for (int n = 1; n <= 6; n++) {
            due("drunk of " + n + ", empty dishes", oneOf(n, "drunk", 0, 0, 0).minutes(1), 1 % n);
            due("drunk of " + n + ", his before him", oneOf(n, "drunk", 0, 9, 0).minutes(1), 1 % n);
            due("drunk of " + n + ", his to the right", oneOf(n, "drunk", n - 1, 9, 0).minutes(1), 1 % n);
            due("drunk of " + n + ", pushed", oneOf(n, "drunk", 0, 9, 0).ahead(1, 1), 1);
        }
        TurningDishes x = oneOf(4, "drunk", 5, 0, 0);
        x.turn(3);
        due("across the end", x.minutes(1), 0);
    }

    private static void eatsOfWhatCame() {
        Check.says("Then he EATS of the DISH BEFORE him, if it has PORTIONS: 1");
        TurningDishes x = oneOf(3, "eater", 1, 1, 1);
        x.minutes(1);
        due("of what he pushed there", x.dish(1, 0), 0);
        due("not of what was there", x.dish(0, 0), 1);
        due("eaten", x.guest(0, 2), 1);
        x.minutes(3);
        due("none is left: nothing more", x.guest(0, 2), 1);
        due("none is left: none below 0", x.dish(1, 0), 0);
        x = oneOf(4, "eater", 2, 9, 9);
        x.minutes(1);
        due("it is not there yet", x.guest(0, 2), 0);
        due("all are left", x.count(4), 36);
    }

    private static void eatsOnlyWhatHeWants() {
        Check.says("an eater, a deaf one only if he WANTS it");
        for (String sort : new String[] {"eater", "deaf"}) {
            due(sort + ", his", oneOf(4, sort, 0, 9, 0).guestAhead(0, 1), 1);
            due(sort + ", his, of one", oneOf(4, sort, 0, 1, 0).guestAhead(0, 1), 1);
            due(sort + ", his, empty", oneOf(4, sort, 0, 0, 9).guestAhead(0, 1), 0);
            due(sort + ", another", oneOf(4, sort, 2, 0, 9).guestAhead(0, 1), 0);
            due(sort + ", none that there is", oneOf(4, sort, 4, 0, 9).guestAhead(0, 1), 0);
        }
    }

    private static void eatsTwoIfThereAreTwo() {
        Check.says("a fast one only if he WANTS it, 2, if there are 2");
        int[] eats = {0, 1, 2, 2};
        for (int portions = 0; portions < eats.length; portions++) {
            TurningDishes x = oneOf(1, "fast", 0, portions, 0);
            due("of " + portions, x.guestAhead(0, 1), eats[portions]);
            x.minutes(1);
            due("left of " + portions, x.dish(0, 0), portions - eats[portions]);
            due("eaten of " + portions, x.guest(0, 2), eats[portions]);
        }
        due("another", oneOf(4, "fast", 2, 0, 9).guestAhead(0, 1), 0);
        due("none that there is", oneOf(4, "fast", 4, 0, 9).guestAhead(0, 1), 0);
    }

    private static void eatsOfAny() {
        Check.says("Then he EATS of the DISH BEFORE him, if it has PORTIONS: 1");
        for (String sort : new String[] {"greedy", "drunk"}) {
            due(sort + ", another", oneOf(4, sort, 2, 0, 9).guestAhead(0, 1), 1);
            due(sort + ", another, of one", oneOf(4, sort, 2, 0, 1).guestAhead(0, 1), 1);
            due(sort + ", another, empty", oneOf(4, sort, 2, 9, 0).guestAhead(0, 1), 0);
            due(sort + ", none that there is", oneOf(4, sort, 4, 0, 9).guestAhead(0, 1), 1);
            due(sort + ", his, of many", oneOf(1, sort, 0, 30, 0).guestAhead(0, 1), 1);
            due(sort + ", his, empty", oneOf(1, sort, 0, 0, 0).guestAhead(0, 1), 0);
        }
    }

    private static void actsKept() {
        Check.says("ACTS (24 at most are kept, of more the oldest is forgotten; each can be undone, the latest first");
        for (int acts : new int[] {23, 24, 25, 47, 48, 49}) {
            TurningDishes x = quiet(6);
            for (int i = 1; i <= acts; i++) {
                x.turn(1);
                due("acts", x.count(5), Math.min(i, 24));
            }
            int kept = Math.min(acts, 24);
            for (int i = 1; i <= kept; i++) {
                due("undone", x.undo(), kept - i);
                due("TURN", x.count(3), (acts - i) % 6);
            }
            due("none is left", x.undo(), Due.STATE);
            due("what was forgotten stays", x.count(3), (acts - kept) % 6);
        }
    }

    private static void actsOfEachKind() {
        Check.says("a MINUTE; the host turns the middle (nobody PUSHES); a DISH is filled up; "
                + "two GUESTS change SEATS; two DISHES change SLOTS.");
        TurningDishes x = Texts.table("guest greedy 1;guest fast 2;guest drunk 0;dish 5;dish 6;dish 7;");
        x.minutes(1);
        due("a minute", x.count(5), 1);
        x.turn(2);
        due("a turn", x.count(5), 2);
        x.fill(2, 30);
        due("a fill", x.count(5), 3);
        x.change(0, 2);
        due("a change", x.count(5), 4);
        x.lay(0, 1);
        due("a lay", x.count(5), 5);
        due("lay undone", x.undo(), 4);
        due("slot of 0", x.dish(0, 1), 0);
        due("slot of 1", x.dish(1, 1), 1);
        due("change undone", x.undo(), 3);
        due("seat of 0", x.guest(0, 0), 0);
        due("seat of 2", x.guest(2, 0), 2);
        due("fill undone", x.undo(), 2);
        due("portions", x.dish(2, 0), 7);
        due("turn undone", x.undo(), 1);
        due("TURN", x.count(3), 1);
        due("minute undone", x.undo(), 0);
        due("TURN", x.count(3), 0);
        due("MINUTE", x.count(2), 0);
        due("eaten", x.guest(0, 2), 0);
        due("portions", x.dish(1, 0), 6);
        due("none", x.undo(), Due.STATE);
    }

    private static void actsByWhichNothingBecomesAnother() {
        Check.says("also such by which nothing becomes another");
        for (int n = 1; n <= 6; n++) {
            TurningDishes x = quiet(n);
            x.turn(0);
            due("by none", x.count(5), 1);
            x.turn(n);
            due("once around", x.count(5), 2);
            x.turn(-n);
            due("once around, right", x.count(5), 3);
            due("undone", x.undo(), 2);
            due("undone", x.undo(), 1);
            due("undone", x.undo(), 0);
            due("none", x.undo(), Due.STATE);
        }
        TurningDishes x = quiet(2);
        x.turn(1);
        for (int i = 0; i < 24; i++) {
            x.turn(0);
        }
        due("they push older ones out, too", x.count(5), 24);
        for (int i = 0; i < 24; i++) {
            x.undo();
        }
        due("TURN", x.count(3), 1);
    }

    /** Whatever place the latest act has, the ones before it come back. */
    private static void actsAroundAndAround() {
        Check.says("each can be undone, the latest first");
        TurningDishes x = quiet(6);
        int turn = 0;
        for (int round = 0; round < 30; round++) {
            for (int i = 1; i <= 5; i++) {
                x.turn(i);
            }
            for (int i = 5; i >= 3; i--) {
                x.undo();
            }
            turn = (turn + 1 + 2) % 6;
            due("round " + round + ": TURN", x.count(3), turn);
            due("round " + round + ": acts", x.count(5), round < 10 ? 2 * round + 2 : 21);
        }
    }

    private static void minutesAtOnce() {
        Check.says("n MINUTES (1 to 24), an ACT each: TURN.");
        for (int n = 1; n <= 24; n++) {
            TurningDishes x = Texts.table("guest drunk 5;".repeat(5));
            due(n + " minutes", x.minutes(n), n % 5);
            due("gone", x.count(2), n);
            due("acts", x.count(5), n);
        }
        TurningDishes x = quiet(3);
        for (int n : new int[] {0, 25, -1, 26, 999, Due.LOW, Due.HIGH}) {
            due(n + " minutes", x.minutes(n), Due.BAD);
        }
        due("none gone", x.count(2), 0);
        due("no act", x.count(5), 0);
    }

    private static TurningDishes behind(int minutes) {
        TurningDishes x = Texts.table("guest drunk 5;".repeat(5) + "dish 1;");
        for (int left = minutes; left > 0; left -= 24) {
            x.minutes(Math.min(left, 24));
        }
        due("gone", x.count(2), minutes);
        return x;
    }

    private static void minutesGone() {
        Check.says("FULL: more than 999 would be gone.");
        TurningDishes x = behind(975);
        due("24 to 999", x.minutes(24), 999 % 5);
        due("999 gone", x.count(2), 999);
        for (int n = 1; n <= 24; n++) {
            due(n + " more", x.minutes(n), Due.FULL);
        }
        due("999 yet", x.count(2), 999);
        x = behind(976);
        due("24 would be 1000", x.minutes(24), Due.FULL);
        due("none of them goes", x.count(2), 976);
        due("TURN stays", x.count(3), 1);
        due("no act", x.count(5), 24);
        due("23 to 999", x.minutes(23), 999 % 5);
        x = behind(998);
        due("2 would be 1000", x.minutes(2), Due.FULL);
        due("1 to 999", x.minutes(1), 999 % 5);
        due("1 would be 1000", x.minutes(1), Due.FULL);
    }

    private static void minutesUndoneAtTheEnd() {
        Check.says("FULL: more than 999 would be gone.");
        TurningDishes x = behind(999);
        x.image(0);
        due("a turn is no minute", x.turn(0), 4);
        x.undo();
        due("one undone", x.undo(), 22);
        due("2 are too many", x.minutes(2), Due.FULL);
        due("one goes", x.minutes(1), 4);
        due("999", x.count(2), 999);
        Texts.feed(x, NOBODY);
        x.table();
        due("of a new table", x.minutes(24), 0);
        x.restore(0);
        due("of the image again", x.minutes(1), Due.FULL);
        due("foretold goes on", x.ahead(99, 0), (999 + 99) % 5);
        x.fill(0, 1);
        due("foretold goes on: when", x.last(0, 1), 4);
        due("foretold goes on: who", x.last(0, 0), 2);
    }

    private static void minutesRefused() {
        Check.says("BAD; STATE: no TABLE (ahead of BAD); FULL");
        for (int n : new int[] {1, 24, 0, 25, Due.LOW, Due.HIGH}) {
            due(n + ", no table", new TurningDishes().minutes(n), Due.STATE);
        }
        TurningDishes x = behind(999);
        due("BAD ahead of FULL", x.minutes(25), Due.BAD);
        due("BAD ahead of FULL, none", x.minutes(0), Due.BAD);
        due("FULL", x.minutes(24), Due.FULL);
        due("acts stay", x.count(5), 24);
        due("TURN stays", x.count(3), 4);
    }

    private static void eachMinuteAnAct() {
        Check.says("an ACT each");
        TurningDishes x = Texts.table("guest drunk 5;".repeat(5));
        x.turn(3);
        x.minutes(24);
        due("the turn is forgotten", x.count(5), 24);
        for (int minute = 23; minute >= 0; minute--) {
            due("undone", x.undo(), minute);
            due("MINUTE", x.count(2), minute);
            due("TURN", x.count(3), (3 + minute) % 5);
        }
        due("none", x.undo(), Due.STATE);
    }

    private static void fillFewestAndMost() {
        Check.says("A DISH is filled up by n (1 to 30): its PORTIONS.");
        TurningDishes x = quiet(6);
        due("1, of the first dish", x.fill(0, 1), 1);
        due("30, of the last dish", x.fill(5, 30), 30);
        for (int n : new int[] {0, 31, -1, 99, Due.LOW, Due.HIGH}) {
            due("by " + n, x.fill(0, n), Due.BAD);
        }
        for (int d : new int[] {6, -1, 7, Due.LOW, Due.HIGH}) {
            due("dish " + d, x.fill(d, 1), Due.BAD);
        }
        due("all", x.count(4), 31);
        due("acts", x.count(5), 2);
    }

    private static void fillAbove99() {
        Check.says("FULL: above 99.");
        TurningDishes x = Texts.table("guest deaf 0;guest deaf 5;dish 30;dish 30;");
        due("60", x.fill(0, 30), 60);
        due("90", x.fill(0, 30), 90);
        due("10 would be 100", x.fill(0, 10), Due.FULL);
        due("90 yet", x.dish(0, 0), 90);
        due("9 to 99", x.fill(0, 9), 99);
        for (int n = 1; n <= 30; n++) {
            due(n + " more", x.fill(0, n), Due.FULL);
        }
        due("99 yet", x.dish(0, 0), 99);
        due("the other dish has room", x.fill(1, 30), 60);
        x.minutes(1);
        due("98 when one is eaten", x.dish(0, 0), 98);
        due("2 would be 100", x.fill(0, 2), Due.FULL);
        due("1 to 99", x.fill(0, 1), 99);
    }

    private static void fillRefused() {
        Check.says("BAD; FULL: above 99.");
        TurningDishes x = Texts.table(NOBODY + "dish 30;");
        x.fill(0, 30);
        x.fill(0, 30);
        x.fill(0, 9);
        due("BAD ahead of FULL", x.fill(0, 31), Due.BAD);
        due("BAD ahead of FULL, dish", x.fill(1, 30), Due.BAD);
        due("FULL", x.fill(0, 1), Due.FULL);
        due("no act", x.count(5), 3);
        due("no table", new TurningDishes().fill(0, 1), Due.BAD);
    }

    /** Of two numbers that name a pair, all that are none are refused as BAD. */
    private static void noPair(int n, IntBinaryOperator call) {
        for (int a = 0; a < n; a++) {
            due("alike " + a, call.applyAsInt(a, a), Due.BAD);
        }
        for (int far : new int[] {n, -1, 6, Due.LOW, Due.HIGH}) {
            due("a is " + far, call.applyAsInt(far, 0), Due.BAD);
            due("b is " + far, call.applyAsInt(0, far), Due.BAD);
            due("both are " + far, call.applyAsInt(far, far), Due.BAD);
        }
    }

    private static void changeAlike() {
        Check.says("Two GUESTS change SEATS: the SEAT of a then. BAD: alike, too.");
        for (int n = 1; n <= 6; n++) {
            TurningDishes x = quiet(n);
            noPair(n, x::change);
            due("no act", x.count(5), 0);
            for (int g = 0; g < n; g++) {
                due("seat", x.guest(g, 0), g);
            }
        }
        TurningDishes x = quiet(6);
        due("the first and the last", x.change(0, 5), 5);
        due("back again", x.change(0, 5), 0);
        due("the last and the first", x.change(5, 0), 0);
        due("an act each", x.count(5), 3);
        due("no table", new TurningDishes().change(0, 1), Due.BAD);
    }

    private static void layAlike() {
        Check.says("Two DISHES change SLOTS: the SLOT of a then. BAD: alike, too.");
        for (int n = 1; n <= 6; n++) {
            TurningDishes x = quiet(n);
            noPair(n, x::lay);
            due("no act", x.count(5), 0);
            for (int d = 0; d < n; d++) {
                due("slot", x.dish(d, 1), d);
            }
        }
        TurningDishes x = quiet(6);
        due("the first and the last", x.lay(0, 5), 5);
        due("back again", x.lay(0, 5), 0);
        due("the last and the first", x.lay(5, 0), 0);
        due("an act each", x.count(5), 3);
        due("no table", new TurningDishes().lay(0, 1), Due.BAD);
    }

    private static void undoNone() {
        Check.says("The latest ACT is undone: how many can be undone yet. STATE: none.");
        TurningDishes x = new TurningDishes();
        due("no table", x.undo(), Due.STATE);
        Texts.feed(x, NOBODY);
        x.table();
        due("a new table", x.undo(), Due.STATE);
        x.turn(1);
        due("the only one", x.undo(), 0);
        due("twice", x.undo(), Due.STATE);
        x.turn(10);
        x.fill(0, 0);
        x.change(0, 0);
        x.lay(0, 0);
        x.minutes(0);
        due("what was refused is no act", x.undo(), Due.STATE);
        x.ahead(9, 0);
        x.image(0);
        due("nor is what is foretold, nor an image", x.undo(), Due.STATE);
        x.turn(1);
        x.restore(0);
        due("none behind an image", x.undo(), Due.STATE);
    }

    private static void guestRefused() {
        Check.says("Of a GUEST: 0 SEAT, 1 what he WANTS, 2 what he has EATEN, 3 the DISH BEFORE him. BAD.");
        for (int n = 1; n <= 6; n++) {
            TurningDishes x = quiet(n);
            due("SEAT of the last", x.guest(n - 1, 0), n - 1);
            due("he WANTS", x.guest(n - 1, 1), 5);
            due("he has EATEN", x.guest(n - 1, 2), 0);
            due("BEFORE him", x.guest(n - 1, 3), n - 1);
            for (int what : new int[] {-1, 4, Due.LOW, Due.HIGH}) {
                due("what " + what, x.guest(0, what), Due.BAD);
            }
            for (int guest : new int[] {-1, n, 6, Due.LOW, Due.HIGH}) {
                due("guest " + guest + " of " + n, x.guest(guest, 0), Due.BAD);
            }
        }
        due("no table", new TurningDishes().guest(0, 0), Due.BAD);
    }

    private static void dishRefused() {
        Check.says("Of a DISH: PORTIONS (what = 0), its SLOT (1). BAD.");
        for (int n = 1; n <= 6; n++) {
            TurningDishes x = quiet(n);
            due("PORTIONS of the last", x.dish(n - 1, 0), 0);
            due("SLOT of the last", x.dish(n - 1, 1), n - 1);
            for (int what : new int[] {-1, 2, Due.LOW, Due.HIGH}) {
                due("what " + what, x.dish(0, what), Due.BAD);
            }
            for (int dish : new int[] {-1, n, 6, Due.LOW, Due.HIGH}) {
                due("dish " + dish + " of " + n, x.dish(dish, 0), Due.BAD);
            }
        }
        due("no table", new TurningDishes().dish(0, 0), Due.BAD);
    }
}
