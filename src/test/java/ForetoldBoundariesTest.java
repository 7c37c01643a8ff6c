/** The edges that the document names of what is foretold, and of images: 'Terms', part 3, and promises 17 to 28. */
public final class ForetoldBoundariesTest {
    private static final int[] NO_MINUTES_AHEAD = {-1, 100, 101, 256, Due.LOW, Due.HIGH};
    private static final int[] NEITHER_0_NOR_1 = {-1, 2, 256, Due.LOW, Due.HIGH};

    private ForetoldBoundariesTest() {
    }

    public static void main(String[] args) {
        aheadFewestAndMost();
        pushedBothWays();
        aheadRefused();
        dishAheadFewestAndMost();
        guestAheadFewestAndMost();
        lastInTheFirstMinute();
        lastInThe200thMinute();
        lastOfNone();
        lastOfTwoAtOnce();
        lastRefused();
        hungryAllAndNone();
        hungryFewestAndMost();
        restNow();
        restAsManyMinutesAsGuests();
        restBehind200();
        restNever();
        servedNow();
        servedNoSuchDish();
        servedOneGuest();
        servedAllAround();
        servedThereAndBack();
        laidFewestAndMost();
        laidFirstOfSeveral();
        laidFirstOfSeveralThatPush();
        laidLastOfAll();
        laidEachOfAll();
        laidNextMinute();
        laidRefused();
        wantedFewestAndMost();
        wantedAllAndNone();
        wantedPlaces();
        wantedRefused();
        seatedFewestAndMost();
        seatedHimself();
        seatedLeastOfSeveral();
        seatedRefused();
        imagesFirstAndLast();
        imageRefused();
        imageStays();
        restoreRefused();
        restoredWithoutActs();
        Check.end();
    }

    private static void due(String call, long got, long want) {
        Check.due(call, got, want);
    }

    /** n drunk ones before n empty dishes: TURN is how many minutes are gone, left over by n. */
    private static TurningDishes drunk(int n) {
        return Texts.table("guest drunk 5;".repeat(n));
    }

    /** n deaf ones, each before the empty dish that he wants. */
    private static TurningDishes content(int n) {
        StringBuilder text = new StringBuilder();
        for (int g = 0; g < n; g++) {
            text.append("guest deaf ").append(g).append(';');
        }
        return Texts.table(text.toString());
    }

    /** The same, with as many portions of one dish as are told. */
    private static TurningDishes content(int n, int dish, int portions) {
        TurningDishes x = content(n);
        for (int left = portions; left > 0; left -= 30) {
            x.fill(dish, Math.min(left, 30));
        }
        return x;
    }

    private static void aheadFewestAndMost() {
        Check.says("AHEAD by n MINUTES (0 to 99): TURN; how much was PUSHED in them");
        for (int n = 1; n <= 6; n++) {
            TurningDishes x = drunk(n);
            x.turn(n - 1);
            for (int minutes : new int[] {0, 1, n, 98, 99}) {
                due("TURN ahead by " + minutes, x.ahead(minutes, 0), (n - 1 + minutes) % n);
                due("PUSHED ahead by " + minutes, x.ahead(minutes, 1), minutes);
            }
            due("TURN now", x.count(3), n - 1);
            due("no minute is gone", x.count(2), 0);
            due("no act more", x.count(5), 1);
        }
    }

    private static void pushedBothWays() {
        Check.says("how much was PUSHED in them, both ways, added");
        TurningDishes x = Texts.table("guest eater 1;guest eater 1;guest deaf 5;dish 9;dish 9;dish 9;");
        due("left: TURN", x.ahead(1, 0), 1);
        due("left: PUSHED", x.ahead(1, 1), 1);
        due("left and right: TURN", x.ahead(2, 0), 0);
        due("left and right: PUSHED", x.ahead(2, 1), 2);
        x.minutes(1);
        due("right alone: PUSHED", x.ahead(1, 1), 1);
    }

    private static void aheadRefused() {
        Check.says("AHEAD: TURN (what = 0), PUSHED (1). BAD; STATE: no TABLE (ahead of BAD).");
        TurningDishes x = drunk(3);
        for (int n : NO_MINUTES_AHEAD) {
            due("TURN ahead by " + n, x.ahead(n, 0), Due.BAD);
            due("PUSHED ahead by " + n, x.ahead(n, 1), Due.BAD);
            due("no table, by " + n, new TurningDishes().ahead(n, 0), Due.STATE);
        }
        for (int what : NEITHER_0_NOR_1) {
            due("what " + what, x.ahead(1, what), Due.BAD);
            due("no table, what " + what, new TurningDishes().ahead(1, what), Due.STATE);
        }
        due("no table", new TurningDishes().ahead(0, 0), Due.STATE);
    }

    private static void dishAheadFewestAndMost() {
        Check.says("AHEAD: PORTIONS of a DISH. BAD.");
        TurningDishes x = content(1, 0, 99);
        due("now", x.dishAhead(0, 0), 99);
        due("1", x.dishAhead(0, 1), 98);
        due("98", x.dishAhead(0, 98), 1);
        due("99", x.dishAhead(0, 99), 0);
        x = content(6, 5, 3);
        due("the last dish, till his turn", x.dishAhead(5, 5), 3);
        due("the last dish", x.dishAhead(5, 6), 2);
        due("none below 0", x.dishAhead(5, 99), 0);
        due("an empty one", x.dishAhead(0, 99), 0);
        due("nothing was eaten", x.count(4), 3);
        for (int n : NO_MINUTES_AHEAD) {
            due("ahead by " + n, x.dishAhead(0, n), Due.BAD);
        }
        for (int dish : new int[] {6, -1, Due.LOW, Due.HIGH}) {
            due("dish " + dish, x.dishAhead(dish, 1), Due.BAD);
        }
        due("dish 1 of 1", content(1).dishAhead(1, 1), Due.BAD);
        due("no table", new TurningDishes().dishAhead(0, 0), Due.BAD);
    }

    private static void guestAheadFewestAndMost() {
        Check.says("AHEAD: what a GUEST EATS. BAD.");
        TurningDishes x = content(1, 0, 99);
        due("in none", x.guestAhead(0, 0), 0);
        due("in 1", x.guestAhead(0, 1), 1);
        due("in 99", x.guestAhead(0, 99), 99);
        x.minutes(24);
        due("not what he has eaten", x.guestAhead(0, 0), 0);
        due("in 99, of 75", x.guestAhead(0, 99), 75);
        x = content(6, 5, 3);
        due("the last guest, till his turn", x.guestAhead(5, 5), 0);
        due("the last guest", x.guestAhead(5, 6), 1);
        for (int n : NO_MINUTES_AHEAD) {
            due("ahead by " + n, x.guestAhead(0, n), Due.BAD);
        }
        for (int guest : new int[] {6, -1, Due.LOW, Due.HIGH}) {
            due("guest " + guest, x.guestAhead(guest, 1), Due.BAD);
        }
        due("guest 1 of 1", content(1).guestAhead(1, 1), Due.BAD);
        due("no table", new TurningDishes().guestAhead(0, 0), Due.BAD);
    }

    private static void lastInTheFirstMinute() {
        Check.says("in the how-manieth MINUTE from now on (1 to 200)");
        for (int n = 1; n <= 6; n++) {
            TurningDishes x = content(n, 0, 1);
            due("the first: when", x.last(0, 1), 1);
            due("the first: who", x.last(0, 0), 0);
            x = content(n, n - 1, 1);
            due("the last guest's: when", x.last(n - 1, 1), n);
            due("the last guest's: who", x.last(n - 1, 0), n - 1);
            x.minutes(n - 1);
            due("from now on: when", x.last(n - 1, 1), 1);
            due("from now on: who", x.last(n - 1, 0), n - 1);
            x.minutes(1);
            due("eaten: when", x.last(n - 1, 1), Due.NONE);
            due("eaten: who", x.last(n - 1, 0), Due.NONE);
        }
    }

    private static void lastInThe200thMinute() {
        Check.says("LAST of a DISH: who EATS its last PORTION; "
                + "in the how-manieth MINUTE from now on (1 to 200); NONE.");
        TurningDishes x = content(6, 1, 34);
        due("the 200th: when", x.last(1, 1), 200);
        due("the 200th: who", x.last(1, 0), 1);
        x = content(6, 0, 34);
        due("the 199th: when", x.last(0, 1), 199);
        due("the 199th: who", x.last(0, 0), 0);
        x = content(6, 2, 34);
        due("the 201st: when", x.last(2, 1), Due.NONE);
        due("the 201st: who", x.last(2, 0), Due.NONE);
        x.minutes(1);
        due("a minute later: when", x.last(2, 1), 200);
        due("a minute later: who", x.last(2, 0), 2);
        x.fill(2, 1);
        due("one portion more: when", x.last(2, 1), Due.NONE);
        due("nothing was eaten", x.dish(2, 0), 35);
    }

    private static void lastOfNone() {
        Check.says("who EATS its last PORTION");
        TurningDishes x = Texts.table("guest deaf 2;guest greedy 5;guest deaf 2;dish 9;dish 0;dish 1;");
        due("empty: who", x.last(1, 0), Due.NONE);
        due("empty: when", x.last(1, 1), Due.NONE);
        due("nobody eats of it: who", x.last(0, 0), Due.NONE);
        due("nobody eats of it: when", x.last(0, 1), Due.NONE);
        x.change(0, 2);
        due("a guest, not a seat", x.last(2, 0), 0);
        due("in the minute of his seat", x.last(2, 1), 3);
    }

    private static void lastOfTwoAtOnce() {
        Check.says("who EATS its last PORTION");
        int[] minutes = {1, 1, 2, 2, 3};
        for (int portions = 1; portions <= minutes.length; portions++) {
            TurningDishes x = Texts.table("guest fast 0;dish " + portions + ";");
            due("of " + portions, x.last(0, 1), minutes[portions - 1]);
            due("of " + portions + ": who", x.last(0, 0), 0);
        }
    }

    private static void lastRefused() {
        Check.says("LAST: who (what = 0), when (1); NONE. BAD.");
        TurningDishes x = content(6, 5, 1);
        for (int what : NEITHER_0_NOR_1) {
            due("what " + what, x.last(5, what), Due.BAD);
        }
        for (int dish : new int[] {6, -1, Due.LOW, Due.HIGH}) {
            due("dish " + dish, x.last(dish, 0), Due.BAD);
        }
        due("dish 1 of 1", content(1).last(1, 0), Due.BAD);
        due("no table", new TurningDishes().last(0, 0), Due.BAD);
    }

    private static void hungryAllAndNone() {
        Check.says("HUNGRY: GUESTS (bits) who have EATEN nothing, behind n MINUTES.");
        for (int n = 1; n <= 6; n++) {
            TurningDishes x = Texts.table("guest greedy 5;".repeat(n) + "dish 30;".repeat(n));
            for (int minutes = 0; minutes <= n; minutes++) {
                due("behind " + minutes, x.hungry(minutes), (1 << n) - (1 << minutes));
            }
            due("none behind 99", x.hungry(99), 0);
            x.minutes(n - 1);
            due("the last one yet", x.hungry(0), 1 << n - 1);
            x.minutes(1);
            due("none now", x.hungry(0), 0);
            due("all behind 99 where nothing is", content(n).hungry(99), (1 << n) - 1);
        }
    }

    private static void hungryFewestAndMost() {
        Check.says("HUNGRY behind n MINUTES (0 to 99). BAD; STATE: no TABLE (ahead of BAD).");
        TurningDishes x = content(2);
        due("0", x.hungry(0), 3);
        due("99", x.hungry(99), 3);
        for (int n : NO_MINUTES_AHEAD) {
            due("behind " + n, x.hungry(n), Due.BAD);
            due("no table, behind " + n, new TurningDishes().hungry(n), Due.STATE);
        }
        due("no table", new TurningDishes().hungry(0), Due.STATE);
        x = Texts.table("guest drunk 5;guest deaf 5;guest deaf 5;guest deaf 5;dish 0;dish 0;dish 0;dish 1;");
        due("behind 8", x.hungry(8), 15);
        due("behind 9, when the third dish of the round came", x.hungry(9), 14);
    }

    private static void restNow() {
        Check.says("REST: the fewest MINUTES (0 to 200)");
        for (int n = 1; n <= 6; n++) {
            due("all empty", content(n).rest(), 0);
            TurningDishes x = content(n, 0, 1);
            due("behind the first minute", x.rest(), 1);
            x.minutes(1);
            due("now", x.rest(), 0);
            due("behind the last one's minute", content(n, n - 1, 1).rest(), n);
            due("behind his second", content(n, n - 1, 2).rest(), 2 * n);
        }
        due("no table", new TurningDishes().rest(), Due.STATE);
    }

    private static void restAsManyMinutesAsGuests() {
        Check.says("behind which in as many MINUTES running as there are GUESTS nobody PUSHES, nobody EATS");
        for (int n = 2; n <= 6; n++) {
            TurningDishes x = content(n, n - 1, 1);
            due("n - 1 quiet ones ahead of one who eats are no rest", x.rest(), n);
            x.minutes(1);
            due("nor n - 2", x.rest(), n - 1);
            x = content(n, 0, 2);
            due("nor n - 1 between two who eat", x.rest(), n + 1);
        }
        TurningDishes x = Texts.table("guest greedy 2;" + "guest deaf 5;".repeat(3) + "dish 0;dish 0;dish 1;");
        due("who pushes and does not eat gives no rest", x.rest(), 5);
    }

    private static void restBehind200() {
        Check.says("REST: the fewest MINUTES (0 to 200) behind which");
        due("199", content(6, 0, 34).rest(), 199);
        due("200", content(6, 1, 34).rest(), 200);
        TurningDishes x = content(6, 2, 34);
        due("201", x.rest(), Due.NONE);
        x.minutes(1);
        due("200, a minute later", x.rest(), 200);
        due("198, of one guest less", content(5, 2, 40).rest(), 198);
        due("200, of one guest less", content(5, 4, 40).rest(), 200);
        due("201, of one guest less", content(5, 0, 41).rest(), Due.NONE);
        due("99, of one guest", content(1, 0, 99).rest(), 99);
    }

    private static void restNever() {
        Check.says("nobody PUSHES, nobody EATS; NONE.");
        for (int n = 1; n <= 6; n++) {
            due("a drunk one of " + n, Texts.table("guest deaf 5;".repeat(n - 1) + "guest drunk 0;").rest(), Due.NONE);
        }
        due("two who push it to and fro till all is eaten", Texts.table("guest eater 0;guest eater 0;dish 9;").rest(), 9);
        TurningDishes x = Texts.table("guest eater 0;guest deaf 5;guest eater 0;dish 30;");
        due("two of three", x.rest(), 45);
        x.fill(0, 30);
        x.fill(0, 30);
        x.fill(0, 9);
        due("two of three, of 99", x.rest(), 148);
    }

    private static void servedNow() {
        Check.says("BEFORE him once (now, too)");
        for (int n = 1; n <= 6; n++) {
            TurningDishes x = content(n);
            due("all have theirs now", x.served(), 0);
            for (int turn = 1; turn < n; turn++) {
                x.turn(1);
                due("all have theirs by the same way", x.served(), Math.min(turn, n - turn));
            }
        }
        due("no table", new TurningDishes().served(), Due.STATE);
    }

    private static void servedNoSuchDish() {
        Check.says("if there is that DISH");
        for (int n = 1; n <= 5; n++) {
            due("none of " + n + " wants one that there is",
                    Texts.table(("guest eater " + n + ";").repeat(n) + "dish 9;".repeat(n)).served(), 0);
        }
        due("one of them does", Texts.table("guest deaf 4;guest deaf 2;guest deaf 3;").served(), 1);
        due("an empty one is one", Texts.table("guest eater 1;guest eater 2;").served(), 1);
    }

    private static void servedOneGuest() {
        Check.says("the fewest turns by 1, either way");
        for (int n = 2; n <= 6; n++) {
            for (int wants = 0; wants < n; wants++) {
                TurningDishes x = Texts.table("guest deaf " + wants + ";" + others(n));
                due("the way to " + wants + " of " + n, x.served(), Math.min(wants, n - wants));
            }
        }
    }

    /** Guests behind guest 0, each of whom has what he wants before him at once. */
    private static String others(int n) {
        StringBuilder text = new StringBuilder();
        for (int g = 1; g < n; g++) {
            text.append("guest deaf ").append(g).append(';');
        }
        return text.toString();
    }

    private static void servedAllAround() {
        Check.says("by which each GUEST has what he WANTS BEFORE him once");
        for (int n = 1; n <= 6; n++) {
            StringBuilder text = new StringBuilder();
            for (int g = 0; g < n; g++) {
                text.append("guest deaf ").append(2 * g % n).append(';');
            }
            due("each of " + n + " at another place", Texts.table(text.toString()).served(), n - 1);
        }
    }

    private static void servedThereAndBack() {
        Check.says("the fewest turns by 1, either way");
        due("1 left, 1 right", served(1, 5), 3);
        due("1 left, 2 right", served(1, 4), 4);
        due("2 left, 1 right", served(2, 5), 4);
        due("2 left, 2 right: 4 left, 4 right or there and back", served(2, 4), 4);
        due("3 left is 3 right", served(3, 3), 3);
        due("1 left, 3 either way", served(1, 3), 3);
        due("5 either way", served(5, 1), 3);
    }

    /** Of six, guest 0 needs the middle turned by a to the left, guest 1 by b; the others have theirs. */
    private static int served(int a, int b) {
        return Texts.table("guest deaf " + a + ";guest deaf " + (1 + b) % 6
                + ";guest deaf 2;guest deaf 3;guest deaf 4;guest deaf 5;").served();
    }

    private static void laidFewestAndMost() {
        Check.says("that by which least is PUSHED in the next m MINUTES (1 to 20)");
        for (int n : new int[] {1, 2, 6}) {
            TurningDishes x = drunk(n);
            for (int m : new int[] {1, 2, 19, 20}) {
                due(m + " minutes", x.laid(m, -1), m);
            }
            for (int m : new int[] {0, 21, -1, 99, Due.LOW, Due.HIGH}) {
                due(m + " minutes", x.laid(m, -1), Due.BAD);
                due(m + " minutes, dish 0", x.laid(m, 0), Due.BAD);
            }
        }
    }

    private static void laidFirstOfSeveral() {
        Check.says("of several the first (the least first): how much; the SLOT of a DISH");
        for (int n = 1; n <= 6; n++) {
            TurningDishes x = content(n);
            for (int d = 1; d < n; d++) {
                x.lay(0, d);
            }
            due("nothing is pushed", x.laid(20, -1), 0);
            for (int d = 0; d < n; d++) {
                due("dish " + d + " of " + n, x.laid(20, d), d);
            }
            if (n > 1) {
                due("they lie as they lay", x.dish(0, 1), n - 1);
            }
        }
    }

    private static void laidFirstOfSeveralThatPush() {
        Check.says("of several the first (the least first)");
        for (int n = 1; n <= 6; n++) {
            TurningDishes x = drunk(n);
            for (int d = 0; d < n; d++) {
                due("all push alike, dish " + d + " of " + n, x.laid(20, d), d);
            }
        }
        TurningDishes x = Texts.table("guest drunk 5;guest eater 2;guest deaf 5;dish 9;dish 9;dish 9;");
        due("1 is pushed, if dish 2 comes into slot 2", x.laid(2, -1), 1);
        due("dish 0", x.laid(2, 0), 0);
        due("dish 1", x.laid(2, 1), 1);
        x.lay(0, 2);
        due("wherever it lies now", x.laid(2, 2), 2);
        x.turn(1);
        due("by the TURN now, 1 is pushed, if it comes into slot 0", x.laid(2, -1), 1);
        due("dish 2", x.laid(2, 2), 0);
        due("the others in order", x.laid(2, 0), 1);
    }

    /** Seat g wants dish n - 1 - g: only the very last row of SLOTS pushes nothing. */
    private static void laidLastOfAll() {
        Check.says("of all rows of SLOTS, unlike ones, for DISHES 0 on");
        for (int n = 1; n <= 6; n++) {
            StringBuilder text = new StringBuilder();
            for (int g = 0; g < n; g++) {
                text.append("guest eater ").append(n - 1 - g).append(';');
            }
            TurningDishes x = Texts.table(text + "dish 30;".repeat(n));
            due("nothing is pushed", x.laid(n, -1), 0);
            for (int d = 0; d < n; d++) {
                due("dish " + d + " of " + n, x.laid(n, d), n - 1 - d);
            }
            due("nothing is pushed in 20", x.laid(20, -1), 0);
        }
    }

    /** For each row of SLOTS a table by which that one alone pushes nothing in as many MINUTES as GUESTS. */
    private static void laidEachOfAll() {
        Check.says("of all rows of SLOTS, unlike ones, for DISHES 0 on");
        for (int n = 1; n <= 6; n++) {
            int rows = 0;
            for (int number = 0; number < Math.pow(n, n); number++) {
                int[] slots = new int[n];
                int used = 0;
                for (int d = n - 1, left = number; d >= 0; d--, left /= n) {
                    slots[d] = left % n;
                    used |= 1 << slots[d];
                }
                if (used == (1 << n) - 1) {
                    rows++;
                    laidAs(slots);
                }
            }
            due("rows of " + n, rows, new int[] {1, 1, 2, 6, 24, 120, 720}[n]);
        }
    }

    private static void laidAs(int[] slots) {
        int n = slots.length;
        int[] wants = new int[n];
        for (int d = 0; d < n; d++) {
            wants[slots[d]] = d;
        }
        StringBuilder text = new StringBuilder();
        for (int dish : wants) {
            text.append("guest eater ").append(dish).append(';');
        }
        TurningDishes x = Texts.table(text + "dish 9;".repeat(n));
        for (int d = 0; d < n; d++) {
            due("dish " + d + " of " + text, x.laid(n, d), slots[d]);
        }
    }

    private static void laidNextMinute() {
        Check.says("in the next m MINUTES (1 to 20)");
        for (int n = 2; n <= 6; n++) {
            TurningDishes x = Texts.table("guest eater " + (n - 1) + ";" + "guest eater 0;".repeat(n - 1)
                    + "dish 9;".repeat(n));
            for (int d = 0; d < n - 1; d++) {
                due("dish " + d + ": one up", x.laid(1, d), d + 1);
            }
            due("his in the first slot", x.laid(1, n - 1), 0);
            x.turn(n - 1);
            due("by the TURN now: his in the last slot", x.laid(1, n - 1), n - 1);
            due("the others in order", x.laid(1, 0), 0);
            x.minutes(1);
            due("another is on", x.laid(1, 0), (1 + x.count(3)) % n);
        }
    }

    private static void laidRefused() {
        Check.says("LAID: how much (k = -1), the SLOT of DISH k. BAD; STATE: no TABLE (ahead of BAD).");
        for (int n = 1; n <= 6; n++) {
            TurningDishes x = content(n);
            due("how much", x.laid(1, -1), 0);
            due("the first dish", x.laid(1, 0), 0);
            due("the last dish", x.laid(1, n - 1), n - 1);
            for (int k : new int[] {n, -2, 6, Due.LOW, Due.HIGH}) {
                due("dish " + k + " of " + n, x.laid(1, k), Due.BAD);
            }
        }
        due("no table", new TurningDishes().laid(1, -1), Due.STATE);
        due("no table, m", new TurningDishes().laid(0, -1), Due.STATE);
        due("no table, m", new TurningDishes().laid(21, 0), Due.STATE);
        due("no table, k", new TurningDishes().laid(1, -2), Due.STATE);
    }

    private static void wantedFewestAndMost() {
        Check.says("WANTED, behind n MINUTES (0 to 99)");
        TurningDishes x = content(1, 0, 99);
        x.row(0, 0, 2);
        x.set(0, 0, 99);
        due("0 minutes: 99", x.wanted(0, 0, 0, 0), 1);
        due("1 minute: no more 99", x.wanted(0, 1, 0, 0), 0);
        due("99 minutes: none is left", x.wanted(0, 99, 0, 1), 1);
        due("98 minutes: one is left", x.wanted(0, 98, 0, 1), 0);
        x.set(0, 1, 1);
        due("98 minutes: one is left, as told", x.wanted(0, 98, 0, 1), 1);
        for (int n : NO_MINUTES_AHEAD) {
            due(n + " minutes", x.wanted(0, n, 0, 0), Due.BAD);
        }
        due("he wants as he did", x.guest(0, 1), 0);
        due("nothing was eaten", x.dish(0, 0), 99);
    }

    private static void wantedAllAndNone() {
        Check.says("DISHES (bits) that there are of which a GUEST may WANT any in place of his, "
                + "so that behind n MINUTES PORTIONS are as a row tells, DISH by DISH.");
        for (int n = 1; n <= 6; n++) {
            TurningDishes x = Texts.table("guest deaf 5;".repeat(n) + "dish 3;".repeat(n));
            x.row(0, 1, n);
            due("none", x.wanted(0, 0, 0, 0), 0);
            for (int d = 0; d < n; d++) {
                x.set(0, d, 3);
            }
            due("all, in no minute", x.wanted(n - 1, 0, 0, 0), (1 << n) - 1);
            due("all but his own, in " + n, x.wanted(n - 1, n, 0, 0), (1 << n) - 1 - (1 << n - 1));
            x.set(0, n - 1, 2);
            due("his own alone", x.wanted(n - 1, n, 0, 0), 1 << n - 1);
            x.set(0, n - 1, 1);
            due("never two", x.wanted(n - 1, n, 0, 0), 0);
            x.set(0, n - 1, -1);
            due("never below 0", x.wanted(n - 1, n, 0, 0), 0);
        }
    }

    private static void wantedPlaces() {
        Check.says("as many ITEMS as DISHES, of a ROW from i on");
        for (int n = 1; n <= 6; n++) {
            TurningDishes x = content(n);
            x.row(0, 2, n);
            due("as many as dishes", x.wanted(0, 0, 0, 0), (1 << n) - 1);
            due("one further", x.wanted(0, 0, 0, 1), Due.PLACE);
            due("one before", x.wanted(0, 0, 0, -1), Due.PLACE);
            x.row(0, 2, n - 1);
            due("one fewer", x.wanted(0, 0, 0, 0), Due.PLACE);
            x.row(0, 2, 40);
            x.set(0, 40 - n - 1, 9);
            due("up to the end, what is ahead does not count", x.wanted(0, 0, 0, 40 - n), (1 << n) - 1);
            due("it counts where it is told", x.wanted(0, 0, 0, 40 - n - 1), 0);
            due("beyond the end", x.wanted(0, 0, 0, 41 - n), Due.PLACE);
            for (int i : new int[] {40, 41, Due.LOW, Due.HIGH, Due.HIGH - n + 1}) {
                due("from " + i, x.wanted(0, 0, 0, i), Due.PLACE);
            }
            x.row(0, 2, 0);
            due("of none", x.wanted(0, 0, 0, 0), Due.PLACE);
        }
    }

    private static void wantedRefused() {
        Check.says("BAD: ROW, n, GUEST; NULL; PLACE.");
        TurningDishes x = content(2);
        x.row(0, 0, 2);
        for (int guest : new int[] {2, -1, 6, Due.LOW, Due.HIGH}) {
            due("guest " + guest, x.wanted(guest, 0, 0, 0), Due.BAD);
        }
        due("GUEST ahead of NULL", x.wanted(2, 0, 1, 0), Due.BAD);
        due("n ahead of NULL", x.wanted(0, 100, 1, 0), Due.BAD);
        due("GUEST ahead of PLACE", x.wanted(2, 0, 0, 9), Due.BAD);
        due("n ahead of PLACE", x.wanted(0, -1, 0, 9), Due.BAD);
        due("ROW ahead of PLACE", x.wanted(0, 0, 8, 9), Due.BAD);
        due("NULL ahead of PLACE", x.wanted(0, 0, 1, 9), Due.NULL);
        due("NULL", x.wanted(0, 0, 7, 0), Due.NULL);
        due("PLACE", x.wanted(0, 0, 0, 1), Due.PLACE);
        TurningDishes none = new TurningDishes();
        none.row(0, 0, 6);
        due("no table: no GUEST", none.wanted(0, 0, 0, 0), Due.BAD);
    }

    private static void seatedFewestAndMost() {
        Check.says("SEATED, n 0 to 99: who (what = 0), how much (1). BAD.");
        TurningDishes x = content(1, 0, 99);
        due("one guest: who", x.seated(0, 99, 0), 0);
        due("one guest: how much", x.seated(0, 99, 1), 99);
        due("in none: how much", x.seated(0, 0, 1), 0);
        due("in 1: how much", x.seated(0, 1, 1), 1);
        x = content(6, 5, 99);
        due("the last guest: who", x.seated(5, 99, 0), 5);
        due("the last guest: how much", x.seated(5, 99, 1), 16);
        due("in 5: how much", x.seated(5, 5, 1), 0);
        due("in 6: how much", x.seated(5, 6, 1), 1);
        for (int n : NO_MINUTES_AHEAD) {
            due("in " + n, x.seated(0, n, 0), Due.BAD);
            due("in " + n + ": how much", x.seated(0, n, 1), Due.BAD);
        }
    }

    private static void seatedHimself() {
        Check.says("the GUEST with whom one is to change SEATS (himself: not at all)");
        for (int n = 2; n <= 6; n++) {
            for (int g = 0; g < n; g++) {
                TurningDishes x = content(n, g, 9);
                due("he has his: who", x.seated(g, n, 0), g);
                due("he has his: how much", x.seated(g, n, 1), 1);
                int other = (g + 1) % n;
                x.change(g, other);
                due("the one who sits there: who", x.seated(g, n, 0), other);
                due("the one who sits there: how much", x.seated(g, n, 1), 1);
                due("he sits where he sat", x.guest(g, 0), other);
            }
        }
        TurningDishes x = content(3, 0, 9);
        x.change(1, 2);
        x.change(0, 1);
        due("a guest, not a seat", x.seated(0, 3, 0), 1);
    }

    private static void seatedLeastOfSeveral() {
        Check.says("of several the least; how much");
        for (int n = 1; n <= 6; n++) {
            TurningDishes x = content(n);
            for (int g = 0; g < n; g++) {
                due("nothing anywhere: who", x.seated(g, 99, 0), 0);
                due("nothing anywhere: how much", x.seated(g, 99, 1), 0);
                due("in no minute: who", x.seated(g, 0, 0), 0);
            }
        }
        TurningDishes x = Texts.table("guest deaf 5;guest deaf 5;guest deaf 5;guest greedy 5;dish 0;dish 2;dish 2;dish 2;");
        due("as much in seats 1 to 3", x.seated(3, 4, 0), 1);
        due("how much", x.seated(3, 4, 1), 1);
    }

    private static void seatedRefused() {
        Check.says("SEATED, n 0 to 99: who (what = 0), how much (1). BAD.");
        TurningDishes x = content(6);
        for (int what : NEITHER_0_NOR_1) {
            due("what " + what, x.seated(0, 1, what), Due.BAD);
        }
        for (int guest : new int[] {6, -1, Due.LOW, Due.HIGH}) {
            due("guest " + guest, x.seated(guest, 1, 0), Due.BAD);
        }
        due("guest 1 of 1", content(1).seated(1, 1, 0), Due.BAD);
        due("no table", new TurningDishes().seated(0, 0, 0), Due.BAD);
    }

    private static void imagesFirstAndLast() {
        Check.says("An IMAGE (0, 1) is kept of the TABLE: 1.");
        TurningDishes x = drunk(5);
        x.minutes(1);
        due("image 0", x.image(0), 1);
        x.minutes(1);
        due("image 1", x.image(1), 1);
        x.minutes(1);
        due("restore 0", x.restore(0), 1);
        due("of image 0", x.count(2), 1);
        due("restore 1", x.restore(1), 1);
        due("of image 1", x.count(2), 2);
        x.minutes(2);
        due("image 0 in place of another", x.image(0), 1);
        due("image 1 stays", x.restore(1), 1);
        due("of image 1", x.count(2), 2);
        due("the new image 0", x.restore(0), 1);
        due("of the new image 0", x.count(2), 4);
    }

    private static void imageRefused() {
        Check.says("BAD; STATE: no TABLE.");
        TurningDishes none = new TurningDishes();
        TurningDishes x = drunk(2);
        for (int k : NEITHER_0_NOR_1) {
            due("image " + k, x.image(k), Due.BAD);
            due("BAD ahead of STATE", none.image(k), Due.BAD);
        }
        due("no table", none.image(0), Due.STATE);
        due("no table", none.image(1), Due.STATE);
        due("nothing was kept", none.restore(0), Due.STATE);
        due("nothing was kept", x.restore(0), Due.STATE);
        due("nothing was kept", x.restore(1), Due.STATE);
    }

    private static void imageStays() {
        Check.says("The TABLE is as an IMAGE kept it");
        TurningDishes x = Texts.table("guest greedy 1;guest fast 0;guest drunk 2;dish 5;dish 6;dish 7;");
        x.minutes(4);
        x.change(0, 2);
        x.image(1);
        int[] kept = look(x);
        x.lay(0, 1);
        x.fill(2, 9);
        x.minutes(7);
        x.turn(1);
        x.change(1, 2);
        x.restore(1);
        same("restored", look(x), kept);
        x.minutes(24);
        x.restore(1);
        same("restored again", look(x), kept);
        Texts.feed(x, "guest deaf 0;");
        x.table();
        x.restore(1);
        same("restored behind another table", look(x), kept);
        x.minutes(1);
        x.undo();
        same("an act behind it undone", look(x), kept);
    }

    private static int[] look(TurningDishes x) {
        int[] seen = new int[6 * 7 + 5];
        int at = 0;
        for (int g = 0; g < 6; g++) {
            for (int what = 0; what < 4; what++) {
                seen[at++] = x.guest(g, what);
            }
            seen[at++] = x.kind(g);
            seen[at++] = x.dish(g, 0);
            seen[at++] = x.dish(g, 1);
        }
        for (int what = 0; what < 5; what++) {
            seen[at++] = x.count(what);
        }
        return seen;
    }

    private static void same(String call, int[] got, int[] want) {
        for (int i = 0; i < want.length; i++) {
            due(call + ", sight " + i, got[i], want[i]);
        }
    }

    private static void restoreRefused() {
        Check.says("BAD; STATE: none was kept.");
        TurningDishes x = drunk(3);
        x.minutes(2);
        for (int k : NEITHER_0_NOR_1) {
            due("restore " + k, x.restore(k), Due.BAD);
            due("BAD ahead of STATE", new TurningDishes().restore(k), Due.BAD);
        }
        due("image 0", x.restore(0), Due.STATE);
        due("image 1", x.restore(1), Due.STATE);
        x.image(0);
        due("image 1 yet", x.restore(1), Due.STATE);
        due("the acts stay", x.count(5), 2);
        due("the minutes stay", x.count(2), 2);
        due("image 0 then", x.restore(0), 1);
    }

    private static void restoredWithoutActs() {
        Check.says("(no ACT can be undone then): 1.");
        TurningDishes x = drunk(3);
        x.minutes(24);
        x.image(0);
        due("an image leaves the acts", x.count(5), 24);
        due("restored", x.restore(0), 1);
        due("no act", x.count(5), 0);
        due("none to undo", x.undo(), Due.STATE);
        x.turn(1);
        due("one since", x.undo(), 0);
        due("no more", x.undo(), Due.STATE);
        due("as restored", x.count(2), 24);
    }
}
