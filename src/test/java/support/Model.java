import java.util.ArrayDeque;
import java.util.ArrayList;
import java.util.Arrays;
import java.util.Deque;
import java.util.HashSet;
import java.util.List;
import java.util.Set;
import java.util.regex.Matcher;
import java.util.regex.Pattern;

/**
 * The document once more, written another way and as slow as it likes: states are copied, ways are
 * searched, orders are tried one by one. ModelTest holds the program against it.
 */
final class Model {
    static final int NONE = -1000000, BAD = -1000001, STATE = -1000002, FULL = -1000003;

    static final class Guest {
        String sort;
        int wants;
        int seat;
        int eaten;

        Guest copy() {
            Guest g = new Guest();
            g.sort = sort;
            g.wants = wants;
            g.seat = seat;
            g.eaten = eaten;
            return g;
        }
    }

    static final class Dish {
        int portions;
        int slot;

        Dish copy() {
            Dish d = new Dish();
            d.portions = portions;
            d.slot = slot;
            return d;
        }
    }

    static final class World {
        final List<Guest> guests = new ArrayList<>();
        final List<Dish> dishes = new ArrayList<>();
        int turn;
        int minute;

        World copy() {
            World w = new World();
            guests.forEach(g -> w.guests.add(g.copy()));
            dishes.forEach(d -> w.dishes.add(d.copy()));
            w.turn = turn;
            w.minute = minute;
            return w;
        }

        int n() {
            return guests.size();
        }

        int dishBefore(Guest g) {
            for (int d = 0; d < n(); d++) {
                if (dishes.get(d).slot == (g.seat + turn) % n()) {
                    return d;
                }
            }
            throw new IllegalStateException();
        }

        void turnBy(int k) {
            turn = Math.floorMod(turn + k, n());
        }

        /** {who was on, how much he pushed, of which dish he ate, how much}. */
        int[] minute() {
            int who = -1;
            for (int g = 0; g < n(); g++) {
                if (guests.get(g).seat == minute % n()) {
                    who = g;
                }
            }
            Guest g = guests.get(who);
            int pushed = 0;
            int quarter = Math.max(n() / 4, 1);
            boolean pushes = g.sort.equals("eater") || g.sort.equals("fast") || g.sort.equals("greedy");
            if (g.sort.equals("drunk")) {
                pushed = 1;
                turnBy(1);
            } else if (pushes && g.wants < n() && dishes.get(g.wants).portions > 0) {
                for (int k = 0; k < n(); k++) {
                    World left = copy();
                    left.turnBy(k);
                    World right = copy();
                    right.turnBy(-k);
                    if (left.dishBefore(left.guests.get(who)) == g.wants) {
                        pushed = Math.min(k, quarter);
                        turnBy(pushed);
                        break;
                    }
                    if (right.dishBefore(right.guests.get(who)) == g.wants) {
                        pushed = Math.min(k, quarter);
                        turnBy(-pushed);
                        break;
                    }
                }
            }
            int before = dishBefore(g);
            Dish dish = dishes.get(before);
            int bite = 0;
            if (dish.portions > 0) {
                switch (g.sort) {
                    case "eater", "deaf" -> bite = before == g.wants ? 1 : 0;
                    case "fast" -> bite = before != g.wants ? 0 : dish.portions >= 2 ? 2 : 1;
                    default -> bite = 1;
                }
            }
            dish.portions -= bite;
            g.eaten += bite;
            minute++;
            return new int[] {who, pushed, before, bite};
        }

        int pass(int k) {
            int pushed = 0;
            for (int i = 0; i < k; i++) {
                pushed += minute()[1];
            }
            return pushed;
        }

        World ahead(int k) {
            World w = copy();
            w.pass(k);
            return w;
        }
    }

    private final int[][] rows = new int[8][];
    private final int[] lanes = new int[8];
    private final StringBuilder tape = new StringBuilder();
    private World world = new World();
    private final World[] images = new World[2];
    private final Deque<World> acts = new ArrayDeque<>();
    private final List<Integer> trace = new ArrayList<>();
    private int fault;
    private int status;

    private boolean none() {
        return world.n() == 0;
    }

    private boolean has(int i) {
        return i >= 0 && i < world.n();
    }

    private int finding(int number) {
        status = number;
        return -1000010 - number;
    }

    private int ok(int answer) {
        status = 0;
        return answer;
    }

    private void act() {
        acts.addLast(world.copy());
        if (acts.size() > 24) {
            acts.removeFirst();
        }
    }

    int row(int row, int lane, int n) {
        if (row < 0 || row > 7 || lane < 0 || lane > 2 || n > 40) {
            return BAD;
        }
        if (n < 0) {
            return finding(4);
        }
        rows[row] = new int[n];
        lanes[row] = lane;
        return ok(n);
    }

    int set(int row, int i, int v) {
        if (row < 0 || row > 7) {
            return BAD;
        }
        if (rows[row] == null) {
            return finding(1);
        }
        if (i < 0 || i >= rows[row].length) {
            return finding(2);
        }
        int bits = new int[] {8, 16, 32}[lanes[row]];
        rows[row][i] = v << 32 - bits >> 32 - bits;
        return ok(rows[row][i]);
    }

    int copy(int a, int i, int b, int j, int n) {
        if (a < 0 || a > 7 || b < 0 || b > 7) {
            return BAD;
        }
        if (rows[a] == null || rows[b] == null) {
            return finding(1);
        }
        if (lanes[a] != lanes[b]) {
            return finding(5);
        }
        if (i < 0 || j < 0 || n < 0 || (long) i + n > rows[a].length || (long) j + n > rows[b].length) {
            return finding(2);
        }
        int[] were = Arrays.copyOfRange(rows[a], i, i + n);
        for (int k = 0; k < n; k++) {
            rows[b][j + k] = were[k];
        }
        return ok(n);
    }

    int drop(int row) {
        if (row < 0 || row > 7) {
            return BAD;
        }
        if (rows[row] == null) {
            return finding(1);
        }
        int had = rows[row].length;
        rows[row] = null;
        return ok(had);
    }

    int feed(long w, int n) {
        if (n < 1 || n > 8) {
            return BAD;
        }
        if (tape.length() + n > 300) {
            return FULL;
        }
        for (int i = n - 1; i >= 0; i--) {
            tape.append((char) (w >>> 8 * i & 255));
        }
        return tape.length();
    }

    private static final Pattern TOKEN = Pattern.compile("[a-z]+|[0-9]+|;|[^ \n]", Pattern.DOTALL);

    int table() {
        String text = tape.toString();
        tape.setLength(0);
        List<String> tokens = new ArrayList<>();
        List<Integer> places = new ArrayList<>();
        Matcher m = TOKEN.matcher(text);
        while (m.find()) {
            tokens.add(m.group());
            places.add(m.start());
        }
        tokens.add("");
        places.add(text.length());
        World told = new World();
        int dishes = 0;
        int at = 0;
        int found = 0;
        // What is due next: 0 a guest or a dish, 1 a sort, 2 what he wants, 3 portions, 4 the sign.
        int due = 0;
        for (; at < tokens.size() && found == 0; at++) {
            String t = tokens.get(at);
            boolean number = t.matches("[0-9]{1,3}");
            if (due == 0 && t.isEmpty() && told.n() > 0) {
                break;
            } else if (due == 0 && t.equals("guest") && dishes == 0) {
                found = told.n() == 6 ? 3 : 0;
                due = 1;
            } else if (due == 0 && t.equals("dish") && told.n() > 0) {
                found = dishes == told.n() ? 3 : 0;
                due = 3;
            } else if (due == 1 && List.of("eater", "fast", "greedy", "deaf", "drunk").contains(t)) {
                Guest g = new Guest();
                g.sort = t;
                g.seat = told.n();
                told.guests.add(g);
                Dish d = new Dish();
                d.slot = told.dishes.size();
                told.dishes.add(d);
                due = 2;
            } else if (due == 2 && number) {
                int wants = Integer.parseInt(t);
                found = wants > 5 ? 2 : 0;
                told.guests.get(told.n() - 1).wants = wants;
                due = 4;
            } else if (due == 3 && number) {
                int portions = Integer.parseInt(t);
                found = portions > 30 ? 2 : 0;
                told.dishes.get(dishes).portions = portions;
                dishes++;
                due = 4;
            } else if (due == 4 && t.equals(";")) {
                due = 0;
            } else {
                found = 1;
            }
            if (found != 0) {
                break;
            }
        }
        if (found != 0) {
            fault = found;
            return -1000100 - places.get(at);
        }
        world = told;
        acts.clear();
        return told.n();
    }

    int fault() {
        return fault;
    }

    int minutes(int n) {
        if (none()) {
            return STATE;
        }
        if (n < 1 || n > 24) {
            return BAD;
        }
        if (world.minute + n > 999) {
            return FULL;
        }
        for (int i = 0; i < n; i++) {
            act();
            world.minute();
        }
        return world.turn;
    }

    int turn(int n) {
        if (none()) {
            return STATE;
        }
        if (n < -9 || n > 9) {
            return BAD;
        }
        act();
        world.turnBy(n);
        return world.turn;
    }

    int fill(int dish, int n) {
        if (!has(dish) || n < 1 || n > 30) {
            return BAD;
        }
        if (world.dishes.get(dish).portions + n > 99) {
            return FULL;
        }
        act();
        return world.dishes.get(dish).portions += n;
    }

    int change(int a, int b) {
        if (!has(a) || !has(b) || a == b) {
            return BAD;
        }
        act();
        swapSeats(world, a, b);
        return world.guests.get(a).seat;
    }

    private static void swapSeats(World w, int a, int b) {
        int seat = w.guests.get(a).seat;
        w.guests.get(a).seat = w.guests.get(b).seat;
        w.guests.get(b).seat = seat;
    }

    int lay(int a, int b) {
        if (!has(a) || !has(b) || a == b) {
            return BAD;
        }
        act();
        int slot = world.dishes.get(a).slot;
        world.dishes.get(a).slot = world.dishes.get(b).slot;
        world.dishes.get(b).slot = slot;
        return world.dishes.get(a).slot;
    }

    int undo() {
        if (acts.isEmpty()) {
            return STATE;
        }
        world = acts.removeLast();
        return acts.size();
    }

    int guest(int guest, int what) {
        if (!has(guest) || what < 0 || what > 3) {
            return BAD;
        }
        Guest g = world.guests.get(guest);
        return new int[] {g.seat, g.wants, g.eaten, world.dishBefore(g)}[what];
    }

    int dish(int dish, int what) {
        if (!has(dish) || what < 0 || what > 1) {
            return BAD;
        }
        Dish d = world.dishes.get(dish);
        return what == 0 ? d.portions : d.slot;
    }

    int ahead(int n, int what) {
        if (none()) {
            return STATE;
        }
        if (n < 0 || n > 99 || what < 0 || what > 1) {
            return BAD;
        }
        World w = world.copy();
        int pushed = w.pass(n);
        return what == 0 ? w.turn : pushed;
    }

    int dishAhead(int dish, int n) {
        if (!has(dish) || n < 0 || n > 99) {
            return BAD;
        }
        return world.ahead(n).dishes.get(dish).portions;
    }

    int guestAhead(int guest, int n) {
        if (!has(guest) || n < 0 || n > 99) {
            return BAD;
        }
        return world.ahead(n).guests.get(guest).eaten - world.guests.get(guest).eaten;
    }

    int last(int dish, int what) {
        if (!has(dish) || what < 0 || what > 1) {
            return BAD;
        }
        World w = world.copy();
        for (int when = 1; when <= 200; when++) {
            int were = w.dishes.get(dish).portions;
            int who = w.minute()[0];
            if (were > 0 && w.dishes.get(dish).portions == 0) {
                return what == 0 ? who : when;
            }
        }
        return NONE;
    }

    int hungry(int n) {
        if (none()) {
            return STATE;
        }
        if (n < 0 || n > 99) {
            return BAD;
        }
        World w = world.ahead(n);
        int bits = 0;
        for (int g = 0; g < w.n(); g++) {
            bits += w.guests.get(g).eaten == 0 ? 1 << g : 0;
        }
        return bits;
    }

    int rest() {
        if (none()) {
            return STATE;
        }
        for (int k = 0; k <= 200; k++) {
            World w = world.ahead(k);
            boolean quiet = true;
            for (int i = 0; i < w.n(); i++) {
                int[] told = w.minute();
                quiet &= told[1] == 0 && told[3] == 0;
            }
            if (quiet) {
                return k;
            }
        }
        return NONE;
    }

    /** A search in breadth over where the middle stands and who has had his dish before him. */
    int served() {
        if (none()) {
            return STATE;
        }
        int all = 0;
        for (int g = 0; g < world.n(); g++) {
            all |= world.guests.get(g).wants < world.n() ? 1 << g : 0;
        }
        Set<List<Integer>> now = new HashSet<>();
        now.add(List.of(world.turn, servedNow(world.turn)));
        for (int turns = 0;; turns++) {
            Set<List<Integer>> then = new HashSet<>();
            for (List<Integer> s : now) {
                if ((s.get(1) & all) == all) {
                    return turns;
                }
                for (int way = -1; way <= 1; way += 2) {
                    int turn = Math.floorMod(s.get(0) + way, world.n());
                    then.add(List.of(turn, s.get(1) | servedNow(turn)));
                }
            }
            now = then;
        }
    }

    private int servedNow(int turn) {
        World w = world.copy();
        w.turn = turn;
        int bits = 0;
        for (int g = 0; g < w.n(); g++) {
            bits |= w.dishBefore(w.guests.get(g)) == w.guests.get(g).wants ? 1 << g : 0;
        }
        return bits;
    }

    int laid(int m, int k) {
        if (none()) {
            return STATE;
        }
        if (m < 1 || m > 20 || k < -1 || k >= world.n()) {
            return BAD;
        }
        int[] best = new int[world.n() + 1];
        best[world.n()] = Integer.MAX_VALUE;
        tryOrders(m, new int[world.n()], 0, 0, best);
        return k == -1 ? best[world.n()] : best[k];
    }

    private void tryOrders(int m, int[] order, int filled, int used, int[] best) {
        if (filled == order.length) {
            World w = world.copy();
            for (int d = 0; d < order.length; d++) {
                w.dishes.get(d).slot = order[d];
            }
            int pushed = w.pass(m);
            if (pushed < best[order.length]) {
                System.arraycopy(order, 0, best, 0, order.length);
                best[order.length] = pushed;
            }
            return;
        }
        for (int slot = 0; slot < order.length; slot++) {
            if ((used >> slot & 1) == 0) {
                order[filled] = slot;
                tryOrders(m, order, filled + 1, used | 1 << slot, best);
            }
        }
    }

    int wanted(int guest, int n, int row, int i) {
        if (row < 0 || row > 7 || n < 0 || n > 99 || !has(guest)) {
            return BAD;
        }
        if (rows[row] == null) {
            return finding(1);
        }
        if (i < 0 || (long) i + world.n() > rows[row].length) {
            return finding(2);
        }
        int bits = 0;
        for (int d = 0; d < world.n(); d++) {
            World w = world.copy();
            w.guests.get(guest).wants = d;
            w.pass(n);
            boolean same = true;
            for (int e = 0; e < w.n(); e++) {
                same &= w.dishes.get(e).portions == rows[row][i + e];
            }
            bits |= same ? 1 << d : 0;
        }
        return ok(bits);
    }

    int seated(int guest, int n, int what) {
        if (!has(guest) || n < 0 || n > 99 || what < 0 || what > 1) {
            return BAD;
        }
        int who = -1;
        int most = -1;
        for (int g = world.n() - 1; g >= 0; g--) {
            World w = world.copy();
            swapSeats(w, g, guest);
            w.pass(n);
            int eats = w.guests.get(guest).eaten - world.guests.get(guest).eaten;
            if (eats >= most) {
                most = eats;
                who = g;
            }
        }
        return what == 0 ? who : most;
    }

    int image(int k) {
        if (k < 0 || k > 1) {
            return BAD;
        }
        if (none()) {
            return STATE;
        }
        images[k] = world.copy();
        return 1;
    }

    int restore(int k) {
        if (k < 0 || k > 1) {
            return BAD;
        }
        if (images[k] == null) {
            return STATE;
        }
        world = images[k].copy();
        acts.clear();
        return 1;
    }

    private static final List<String> SORTS = List.of("guest", "eater", "fast", "greedy", "deaf", "drunk");

    int kind(int guest) {
        return has(guest) ? SORTS.indexOf(world.guests.get(guest).sort) : BAD;
    }

    int as(int guest, int kind) {
        if (!has(guest) || kind < 0 || kind > 5) {
            return BAD;
        }
        List<List<Integer>> are = List.of(List.of(0), List.of(0, 1), List.of(0, 1, 2), List.of(0, 1, 3),
                List.of(0, 4), List.of(0, 4, 5));
        return are.get(kind(guest)).contains(kind) ? ok(guest) : finding(3);
    }

    int ask(int guest, int what) {
        if (!has(guest) || what < 0 || what > 1) {
            return BAD;
        }
        trace.clear();
        Asked g = asked(guest);
        int answer = what == 0 ? g.size() : g.mark();
        while (trace.size() > 16) {
            trace.remove(16);
        }
        return answer;
    }

    private Asked asked(int guest) {
        Guest g = world.guests.get(guest);
        return switch (g.sort) {
            case "eater" -> new EaterAsked(g, guest, trace);
            case "fast" -> new FastAsked(g, guest, trace);
            case "greedy" -> new GreedyAsked(g, guest, trace);
            case "deaf" -> new DeafAsked(g, guest, trace);
            default -> new DrunkAsked(g, guest, trace);
        };
    }

    private static class Asked {
        final Guest g;
        final int number;
        final List<Integer> trace;

        Asked(Guest g, int number, List<Integer> trace) {
            this.g = g;
            this.number = number;
            this.trace = trace;
        }

        int size() {
            trace.add(10);
            return g.eaten;
        }

        int mark() {
            trace.add(20);
            return number;
        }
    }

    private static class EaterAsked extends Asked {
        EaterAsked(Guest g, int number, List<Integer> trace) {
            super(g, number, trace);
        }

        @Override
        int size() {
            trace.add(11);
            return super.size() + mark();
        }

        @Override
        int mark() {
            trace.add(21);
            return super.mark() + g.wants;
        }
    }

    private static final class FastAsked extends EaterAsked {
        FastAsked(Guest g, int number, List<Integer> trace) {
            super(g, number, trace);
        }

        @Override
        int size() {
            trace.add(12);
            return -super.size();
        }

        @Override
        int mark() {
            trace.add(24);
            return 2 * super.mark();
        }
    }

    private static final class GreedyAsked extends EaterAsked {
        GreedyAsked(Guest g, int number, List<Integer> trace) {
            super(g, number, trace);
        }

        @Override
        int mark() {
            trace.add(22);
            return super.mark() - 1000;
        }
    }

    private static class DeafAsked extends Asked {
        DeafAsked(Guest g, int number, List<Integer> trace) {
            super(g, number, trace);
        }

        @Override
        int size() {
            trace.add(13);
            return super.size() - 100;
        }

        @Override
        int mark() {
            trace.add(23);
            return super.mark() - size();
        }
    }

    private static final class DrunkAsked extends DeafAsked {
        DrunkAsked(Guest g, int number, List<Integer> trace) {
            super(g, number, trace);
        }

        @Override
        int size() {
            trace.add(14);
            return 2 * super.size();
        }
    }

    int trace(int i) {
        return i >= 0 && i < trace.size() ? trace.get(i) : NONE;
    }

    int count(int what) {
        switch (what) {
            case 0: return (int) Arrays.stream(rows).filter(r -> r != null).count();
            case 1: return world.n();
            case 2: return world.minute;
            case 3: return world.turn;
            case 4: return world.dishes.stream().mapToInt(d -> d.portions).sum();
            case 5: return acts.size();
            case 6: return tape.length();
            default: return BAD;
        }
    }

    int status() {
        return status;
    }
}
