/**
 * Guests of kinds around a table whose middle turns with dishes: told in a text, played minute by
 * minute, foretold, asked about and undone. README.md says how to use it.
 */
public final class TurningDishes {

    public static final int NONE = -1000000, BAD = -1000001, STATE = -1000002, FULL = -1000003;

    private static final int FINDINGS_START = -1000010, FAULTS_START = -1000100;
    private static final int NO_FINDING = 0, MISSING_ROW = 1, NO_SUCH_PLACE = 2, NOT_THAT_KIND = 3,
            FEWER_THAN_NONE = 4, TWO_LANES = 5;

    private static final int MOST_ROWS = 8, MOST_ITEMS = 40, BYTES = 0, SHORTS = 1, INTS = 2;
    private static final int MOST_BYTES = 300, MOST_BYTES_FED = 8, MOST_FIGURES = 3;
    private static final int MOST_GUESTS = 6, MOST_WANTED = 5, MOST_TOLD_PORTIONS = 30,
            MOST_FILLED = 30, MOST_PORTIONS = 99;
    private static final int MOST_MINUTES = 999, MOST_MINUTES_AT_ONCE = 24, MOST_TURNED = 9,
            MOST_ACTS = 24, MOST_IMAGES = 2;
    private static final int MOST_AHEAD = 99, MOST_SEARCHED = 200, MOST_LAID_AHEAD = 20;
    private static final int MOST_TRACED = 16;

    private static final int GUEST = 0, EATER = 1, FAST = 2, GREEDY = 3, DEAF = 4, DRUNK = 5;

    private final Row[] rows;
    private final TableReader reader;
    private final Table table;
    private final Acts acts;
    private final Table[] images;
    private final Foresight foresight;
    private final Asks asks;
    private int latestFault;
    private int latestFinding;

    public TurningDishes() {
        rows = new Row[MOST_ROWS];
        for (int i = 0; i < rows.length; i++) {
            rows[i] = new Row();
        }
        images = new Table[MOST_IMAGES];
        for (int i = 0; i < images.length; i++) {
            images[i] = new Table();
        }
        reader = new TableReader();
        table = new Table();
        acts = new Acts();
        foresight = new Foresight();
        asks = new Asks();
    }

    // ---- rows

    public int row(int row, int lane, int n) {
        Row made = rowAt(row);
        if (made == null || !within(lane, BYTES, INTS) || n > MOST_ITEMS) {
            return BAD;
        }
        if (n < 0) {
            return found(FEWER_THAN_NONE);
        }
        made.begin(lane, n);
        return fine(n);
    }

    public int set(int row, int i, int v) {
        Row changed = rowAt(row);
        if (changed == null) {
            return BAD;
        }
        if (changed.isMissing()) {
            return found(MISSING_ROW);
        }
        if (!changed.hasPlaces(i, 1)) {
            return found(NO_SUCH_PLACE);
        }
        changed.store(i, v);
        return fine(changed.item(i));
    }

    public int copy(int a, int i, int b, int j, int n) {
        Row from = rowAt(a);
        Row to = rowAt(b);
        if (from == null || to == null) {
            return BAD;
        }
        if (from.isMissing() || to.isMissing()) {
            return found(MISSING_ROW);
        }
        if (from.lane != to.lane) {
            return found(TWO_LANES);
        }
        if (!from.hasPlaces(i, n) || !to.hasPlaces(j, n)) {
            return found(NO_SUCH_PLACE);
        }
        to.take(from, i, j, n);
        return fine(n);
    }

    public int drop(int row) {
        Row dropped = rowAt(row);
        if (dropped == null) {
            return BAD;
        }
        if (dropped.isMissing()) {
            return found(MISSING_ROW);
        }
        int had = dropped.length;
        dropped.end();
        return fine(had);
    }

    // ---- tables, minutes

    public int feed(long w, int n) {
        if (!within(n, 1, MOST_BYTES_FED)) {
            return BAD;
        }
        if (reader.tape.length + n > MOST_BYTES) {
            return FULL;
        }
        for (int left = n - 1; left >= 0; left--) {
            reader.tape.add((int) (w >> (8 * left)) & 255);
        }
        return reader.tape.length;
    }

    public int table() {
        reader.read();
        reader.tape.clear();
        if (reader.fault != 0) {
            latestFault = reader.fault;
            return FAULTS_START - reader.tokenStart;
        }
        table.become(reader.told);
        acts.forget();
        return table.guests;
    }

    public int fault() {
        return latestFault;
    }

    public int minutes(int n) {
        if (!table.stands()) {
            return STATE;
        }
        if (!within(n, 1, MOST_MINUTES_AT_ONCE)) {
            return BAD;
        }
        if (table.minute + n > MOST_MINUTES) {
            return FULL;
        }
        for (int i = 0; i < n; i++) {
            acts.keep(table);
            table.passMinute();
        }
        return table.turned;
    }

    public int turn(int n) {
        if (!table.stands()) {
            return STATE;
        }
        if (!within(n, -MOST_TURNED, MOST_TURNED)) {
            return BAD;
        }
        acts.keep(table);
        table.turnLeft(n);
        return table.turned;
    }

    public int fill(int dish, int n) {
        if (!table.has(dish) || !within(n, 1, MOST_FILLED)) {
            return BAD;
        }
        if (table.of(Table.PORTIONS, dish) + n > MOST_PORTIONS) {
            return FULL;
        }
        acts.keep(table);
        table.add(Table.PORTIONS, dish, n);
        return table.of(Table.PORTIONS, dish);
    }

    public int change(int a, int b) {
        if (!table.has(a) || !table.has(b) || a == b) {
            return BAD;
        }
        acts.keep(table);
        table.swapSeats(a, b);
        return table.of(Table.SEAT, a);
    }

    public int lay(int a, int b) {
        if (!table.has(a) || !table.has(b) || a == b) {
            return BAD;
        }
        acts.keep(table);
        table.swapSlots(a, b);
        return table.of(Table.SLOT, a);
    }

    public int undo() {
        if (acts.kept == 0) {
            return STATE;
        }
        acts.giveBack(table);
        return acts.kept;
    }

    public int guest(int guest, int what) {
        if (!table.has(guest)) {
            return BAD;
        }
        switch (what) {
            case 0: return table.of(Table.SEAT, guest);
            case 1: return table.of(Table.WANTS, guest);
            case 2: return table.of(Table.EATEN, guest);
            case 3: return table.dishBefore(guest);
            default: return BAD;
        }
    }

    public int dish(int dish, int what) {
        if (!table.has(dish)) {
            return BAD;
        }
        switch (what) {
            case 0: return table.of(Table.PORTIONS, dish);
            case 1: return table.of(Table.SLOT, dish);
            default: return BAD;
        }
    }

    // ---- foretold

    public int ahead(int n, int what) {
        if (!table.stands()) {
            return STATE;
        }
        if (!within(n, 0, MOST_AHEAD) || !within(what, 0, 1)) {
            return BAD;
        }
        int pushed = foresight.look(table, n);
        return what == 0 ? foresight.later.turned : pushed;
    }

    public int dishAhead(int dish, int n) {
        if (!table.has(dish) || !within(n, 0, MOST_AHEAD)) {
            return BAD;
        }
        foresight.look(table, n);
        return foresight.later.of(Table.PORTIONS, dish);
    }

    public int guestAhead(int guest, int n) {
        if (!table.has(guest) || !within(n, 0, MOST_AHEAD)) {
            return BAD;
        }
        return foresight.eatsSeatedAs(table, guest, guest, n);
    }

    public int last(int dish, int what) {
        if (!table.has(dish) || !within(what, 0, 1)) {
            return BAD;
        }
        int when = foresight.minuteOfLastPortion(table, dish);
        return what == 1 || when == NONE ? when : foresight.later.on;
    }

    public int hungry(int n) {
        if (!table.stands()) {
            return STATE;
        }
        if (!within(n, 0, MOST_AHEAD)) {
            return BAD;
        }
        foresight.look(table, n);
        return foresight.later.whoAteNothing();
    }

    public int rest() {
        return table.stands() ? foresight.minutesToRest(table) : STATE;
    }

    public int served() {
        return table.stands() ? foresight.turnsToServe(table) : STATE;
    }

    public int laid(int m, int k) {
        if (!table.stands()) {
            return STATE;
        }
        if (!within(m, 1, MOST_LAID_AHEAD) || !(k == -1 || table.has(k))) {
            return BAD;
        }
        int pushed = foresight.findBestSlots(table, m);
        return k == -1 ? pushed : foresight.bestSlot(k);
    }

    public int wanted(int guest, int n, int row, int i) {
        Row left = rowAt(row);
        if (left == null || !table.has(guest) || !within(n, 0, MOST_AHEAD)) {
            return BAD;
        }
        if (left.isMissing()) {
            return found(MISSING_ROW);
        }
        if (!left.hasPlaces(i, table.guests)) {
            return found(NO_SUCH_PLACE);
        }
        return fine(foresight.dishesToWant(table, guest, n, left, i));
    }

    public int seated(int guest, int n, int what) {
        if (!table.has(guest) || !within(n, 0, MOST_AHEAD) || !within(what, 0, 1)) {
            return BAD;
        }
        int best = foresight.bestToSitAs(table, guest, n);
        return what == 0 ? best : foresight.eatsSeatedAs(table, guest, best, n);
    }

    public int image(int k) {
        Table image = imageAt(k);
        if (image == null) {
            return BAD;
        }
        if (!table.stands()) {
            return STATE;
        }
        image.become(table);
        return 1;
    }

    public int restore(int k) {
        Table image = imageAt(k);
        if (image == null) {
            return BAD;
        }
        if (!image.stands()) {
            return STATE;
        }
        table.become(image);
        acts.forget();
        return 1;
    }

    // ---- asked

    public int kind(int guest) {
        return table.has(guest) ? table.of(Table.SORT, guest) : BAD;
    }

    public int as(int guest, int kind) {
        if (!table.has(guest) || !within(kind, GUEST, DRUNK)) {
            return BAD;
        }
        return isOne(table.of(Table.SORT, guest), kind) ? fine(guest) : found(NOT_THAT_KIND);
    }

    public int ask(int guest, int what) {
        if (!table.has(guest) || !within(what, 0, 1)) {
            return BAD;
        }
        asks.begin(table, guest);
        return what == 0 ? asks.size() : asks.mark();
    }

    public int trace(int i) {
        return asks.traced(i);
    }

    public int count(int what) {
        switch (what) {
            case 0: return rowsThere();
            case 1: return table.guests;
            case 2: return table.minute;
            case 3: return table.turned;
            case 4: return table.portionsOfAll();
            case 5: return acts.kept;
            case 6: return reader.tape.length;
            default: return BAD;
        }
    }

    public int status() {
        return latestFinding;
    }

    private Row rowAt(int row) {
        return row >= 0 && row < rows.length ? rows[row] : null;
    }

    private Table imageAt(int k) {
        return k >= 0 && k < images.length ? images[k] : null;
    }

    private int rowsThere() {
        int there = 0;
        for (int i = 0; i < rows.length; i++) {
            Row row = rows[i];
            if (row != null && !row.isMissing()) {
                there++;
            }
        }
        return there;
    }

    private int found(int finding) {
        latestFinding = finding;
        return FINDINGS_START - finding;
    }

    private int fine(int answer) {
        latestFinding = NO_FINDING;
        return answer;
    }

    private static boolean within(int n, int least, int most) {
        return n >= least && n <= most;
    }

    private static int leftOver(int n, int by) {
        if (by <= 0) {
            return 0;
        }
        int left = n % by;
        return left < 0 ? left + by : left;
    }

    private static boolean isOne(int sort, int kind) {
        switch (kind) {
            case GUEST: return true;
            case EATER: return sort == EATER || sort == FAST || sort == GREEDY;
            case DEAF: return sort == DEAF || sort == DRUNK;
            default: return sort == kind;
        }
    }

    /** A ROW of ITEMS; its room is made once, for as many as a ROW can have. */
    private static final class Row {
        private static final int MISSING = -1;

        private final int[] items = new int[MOST_ITEMS];
        private int lane = MISSING;
        private int length;

        boolean isMissing() {
            return lane == MISSING;
        }

        void begin(int newLane, int n) {
            lane = newLane;
            length = Math.max(0, Math.min(n, items.length));
            for (int i = 0; i < items.length; i++) {
                items[i] = 0;
            }
        }

        void end() {
            lane = MISSING;
            length = 0;
        }

        /** Whether n places from i on are there; asked so that no sum of the two can wrap around. */
        boolean hasPlaces(int i, int n) {
            return n >= 0 && i >= 0 && n <= length && i <= length - n;
        }

        int item(int i) {
            return i >= 0 && i < items.length ? items[i] : 0;
        }

        void store(int i, int v) {
            if (i < 0 || i >= items.length) {
                return;
            }
            switch (lane) {
                case BYTES: items[i] = (byte) v; break;
                case SHORTS: items[i] = (short) v; break;
                default: items[i] = v; break;
            }
        }

        void take(Row from, int i, int j, int n) {
            if (from != null && from.hasPlaces(i, n) && hasPlaces(j, n)) {
                System.arraycopy(from.items, i, items, j, n);
            }
        }
    }

    /** The bytes of a text, as they were fed. */
    private static final class Tape {
        private static final int END = -1;

        private final int[] bytes = new int[MOST_BYTES];
        private int length;

        void add(int b) {
            if (length >= 0 && length < bytes.length) {
                bytes[length] = b;
                length++;
            }
        }

        void clear() {
            length = 0;
        }

        int at(int i) {
            return i >= 0 && i < length && i < bytes.length ? bytes[i] : END;
        }

        int endOfBlanks(int from) {
            int i = from;
            while (i < length && isBlank(at(i))) {
                i++;
            }
            return i;
        }

        int endOfLetters(int from) {
            int i = from;
            while (i < length && isLetter(at(i))) {
                i++;
            }
            return i;
        }

        int endOfFigures(int from) {
            int i = from;
            while (i < length && isFigure(at(i))) {
                i++;
            }
            return i;
        }

        static boolean isBlank(int b) {
            return b == ' ' || b == '\n';
        }

        static boolean isLetter(int b) {
            return b >= 'a' && b <= 'z';
        }

        static boolean isFigure(int b) {
            return b >= '0' && b <= '9';
        }
    }

    /** Reads the tape token by token; the first token with a fault stops it, and is the one it stands at. */
    private static final class TableReader {
        private static final int NAME = 0, NUMBER = 1, SIGN = 2, END = 3, NO_TOKEN = 4;
        private static final int NO_FAULT = 0, MISPLACED = 1, WRONG_NUMBER = 2, NO_ROOM = 3;

        private final Tape tape = new Tape();
        private final Table told = new Table();
        private int token;
        private int tokenStart;
        private int tokenEnd;
        private int number;
        private int dishes;
        private int fault;

        /** The round beyond the most guests is there for the one without room. */
        void read() {
            told.clear();
            tokenEnd = 0;
            dishes = 0;
            next();
            fault = isWord("guest") ? NO_FAULT : MISPLACED;
            for (int i = 0; i <= MOST_GUESTS && fault == NO_FAULT && isWord("guest"); i++) {
                readGuest();
            }
            for (int i = 0; i <= MOST_GUESTS && fault == NO_FAULT && isWord("dish"); i++) {
                readDish();
            }
            if (fault == NO_FAULT && token != END) {
                fault = MISPLACED;
            }
        }

        private void readGuest() {
            if (told.guests >= MOST_GUESTS) {
                fault = NO_ROOM;
                return;
            }
            next();
            int sort = sortNamed();
            if (sort == GUEST) {
                fault = MISPLACED;
                return;
            }
            next();
            int wants = readNumberAndEnd(MOST_WANTED);
            if (fault == NO_FAULT) {
                told.seat(sort, wants);
            }
        }

        private void readDish() {
            if (dishes >= told.guests) {
                fault = NO_ROOM;
                return;
            }
            next();
            int portions = readNumberAndEnd(MOST_TOLD_PORTIONS);
            if (fault == NO_FAULT) {
                told.put(Table.PORTIONS, dishes, portions);
                dishes++;
            }
        }

        /** The number that a guest and a dish are told with, and the sign behind it. */
        private int readNumberAndEnd(int most) {
            int read = number;
            if (token != NUMBER) {
                fault = MISPLACED;
                return 0;
            }
            if (read > most) {
                fault = WRONG_NUMBER;
                return 0;
            }
            next();
            if (token != SIGN) {
                fault = MISPLACED;
                return 0;
            }
            next();
            return read;
        }

        /** The SORT that the token names; GUEST, which is no SORT, where it names none. */
        private int sortNamed() {
            if (isWord("eater")) {
                return EATER;
            }
            if (isWord("fast")) {
                return FAST;
            }
            if (isWord("greedy")) {
                return GREEDY;
            }
            if (isWord("deaf")) {
                return DEAF;
            }
            return isWord("drunk") ? DRUNK : GUEST;
        }

        private boolean isWord(String word) {
            if (token != NAME || tokenEnd - tokenStart != word.length()) {
                return false;
            }
            for (int i = 0; i < word.length(); i++) {
                if (tape.at(tokenStart + i) != word.charAt(i)) {
                    return false;
                }
            }
            return true;
        }

        private void next() {
            tokenStart = tape.endOfBlanks(tokenEnd);
            tokenEnd = tokenStart + 1;
            int first = tape.at(tokenStart);
            if (first == Tape.END) {
                token = END;
                tokenEnd = tokenStart;
            } else if (Tape.isLetter(first)) {
                token = NAME;
                tokenEnd = tape.endOfLetters(tokenStart);
            } else if (Tape.isFigure(first)) {
                tokenEnd = tape.endOfFigures(tokenStart);
                token = tokenEnd - tokenStart <= MOST_FIGURES ? NUMBER : NO_TOKEN;
                number = token == NUMBER ? valueOfFigures() : 0;
            } else {
                token = first == ';' ? SIGN : NO_TOKEN;
            }
        }

        private int valueOfFigures() {
            int value = 0;
            for (int i = tokenStart; i < tokenEnd; i++) {
                value = 10 * value + tape.at(i) - '0';
            }
            return value;
        }
    }

    /**
     * A TABLE. All that is told of each guest, dish, seat and slot stands in one row of numbers, column
     * behind column, so that an image, an act's way back and a look ahead cost one copy and no new object.
     */
    private static final class Table {
        private static final int SORT = 0, WANTS = 1, SEAT = 2, EATEN = 3, PORTIONS = 4, SLOT = 5,
                GUEST_IN_SEAT = 6, DISH_IN_SLOT = 7, COLUMNS = 8;

        private final int[] cells = new int[COLUMNS * MOST_GUESTS];
        private int guests;
        private int turned;
        private int minute;

        // Of the latest MINUTE alone: who was on, how much he pushed, of which dish he ate, how much.
        private int on;
        private int pushed;
        private int dishEaten;
        private int bite;

        int of(int column, int i) {
            int at = column * MOST_GUESTS + i;
            return i >= 0 && i < MOST_GUESTS && at >= 0 && at < cells.length ? cells[at] : 0;
        }

        void put(int column, int i, int v) {
            int at = column * MOST_GUESTS + i;
            if (i >= 0 && i < MOST_GUESTS && at >= 0 && at < cells.length) {
                cells[at] = v;
            }
        }

        void add(int column, int i, int v) {
            put(column, i, of(column, i) + v);
        }

        boolean stands() {
            return guests > 0;
        }

        /** There are as many dishes, seats and slots as guests: one question for all of them. */
        boolean has(int i) {
            return i >= 0 && i < guests;
        }

        void clear() {
            guests = 0;
            turned = 0;
            minute = 0;
            for (int i = 0; i < cells.length; i++) {
                cells[i] = 0;
            }
        }

        void become(Table other) {
            if (other == null || other.cells.length != cells.length) {
                return;
            }
            System.arraycopy(other.cells, 0, cells, 0, cells.length);
            guests = other.guests;
            turned = other.turned;
            minute = other.minute;
        }

        /** One more guest, and with him one more seat, slot and (empty) dish. */
        void seat(int sort, int wants) {
            put(SORT, guests, sort);
            put(WANTS, guests, wants);
            put(SEAT, guests, guests);
            put(GUEST_IN_SEAT, guests, guests);
            layIn(guests, guests);
            guests++;
        }

        void layIn(int dish, int slot) {
            put(SLOT, dish, slot);
            put(DISH_IN_SLOT, slot, dish);
        }

        void swapSeats(int a, int b) {
            int seatOfA = of(SEAT, a);
            int seatOfB = of(SEAT, b);
            put(SEAT, a, seatOfB);
            put(SEAT, b, seatOfA);
            put(GUEST_IN_SEAT, seatOfB, a);
            put(GUEST_IN_SEAT, seatOfA, b);
        }

        void swapSlots(int a, int b) {
            int slotOfA = of(SLOT, a);
            layIn(a, of(SLOT, b));
            layIn(b, slotOfA);
        }

        void turnLeft(int n) {
            turned = leftOver(turned + n, guests);
        }

        int dishBefore(int guest) {
            return of(DISH_IN_SLOT, leftOver(of(SEAT, guest) + turned, guests));
        }

        void passMinute() {
            on = of(GUEST_IN_SEAT, leftOver(minute, guests));
            int push = pushBy(on);
            pushed = Math.abs(push);
            turnLeft(push);
            dishEaten = dishBefore(on);
            bite = biteOf(on, dishEaten);
            add(PORTIONS, dishEaten, -bite);
            add(EATEN, on, bite);
            minute++;
        }

        /** How far a guest who is on pushes to the left; below 0: to the right. */
        private int pushBy(int guest) {
            int sort = of(SORT, guest);
            int dish = of(WANTS, guest);
            if (sort == DRUNK) {
                return 1;
            }
            if (sort == DEAF || !has(dish) || of(PORTIONS, dish) == 0) {
                return 0;
            }
            int quarter = Math.max(1, guests / 4);
            int left = toTheLeft(guest, dish);
            int right = guests - left;
            return left <= right ? Math.min(left, quarter) : -Math.min(right, quarter);
        }

        /** How far the middle must be turned to the left to bring a dish before a guest. */
        int toTheLeft(int guest, int dish) {
            return leftOver(of(SLOT, dish) - of(SEAT, guest) - turned, guests);
        }

        private int biteOf(int guest, int dish) {
            int sort = of(SORT, guest);
            int portions = of(PORTIONS, dish);
            boolean takesAny = sort == GREEDY || sort == DRUNK;
            if (!takesAny && of(WANTS, guest) != dish) {
                return 0;
            }
            return Math.min(portions, sort == FAST ? 2 : 1);
        }

        int portionsOfAll() {
            int sum = 0;
            for (int dish = 0; dish < guests; dish++) {
                sum += of(PORTIONS, dish);
            }
            return sum;
        }

        int whoAteNothing() {
            int bits = 0;
            for (int guest = 0; guest < guests; guest++) {
                if (of(EATEN, guest) == 0) {
                    bits |= 1 << guest;
                }
            }
            return bits;
        }
    }

    /** The tables as they stood ahead of the latest acts, in a ring: the oldest gives way. */
    private static final class Acts {
        private final Table[] before = new Table[MOST_ACTS];
        private int next;
        private int kept;

        Acts() {
            for (int i = 0; i < before.length; i++) {
                before[i] = new Table();
            }
        }

        void keep(Table table) {
            Table place = at(next);
            if (place != null) {
                place.become(table);
            }
            next = leftOver(next + 1, MOST_ACTS);
            kept = Math.min(kept + 1, MOST_ACTS);
        }

        void giveBack(Table table) {
            next = leftOver(next - 1, MOST_ACTS);
            table.become(at(next));
            kept--;
        }

        void forget() {
            kept = 0;
        }

        private Table at(int i) {
            return i >= 0 && i < before.length ? before[i] : null;
        }
    }

    /** What would come of a table: tried on a copy, so that the table itself stays as it is. */
    private static final class Foresight {
        private static final int MORE_THAN_CAN_BE_PUSHED = 1000000, MORE_THAN_ALL_ORDERS = 1000000;

        private final Table later = new Table();
        private final int[] slots = new int[MOST_GUESTS];
        private final int[] bestSlots = new int[MOST_GUESTS];

        /** Makes the copy stand where the table does in n minutes: how much is pushed until then. */
        int look(Table now, int n) {
            later.become(now);
            return passMinutes(n, MORE_THAN_CAN_BE_PUSHED);
        }

        /** Lets n minutes pass, or fewer, once as much is pushed as is too much: how much was pushed. */
        private int passMinutes(int n, int tooMuch) {
            int sum = 0;
            for (int i = 0; i < n && sum < tooMuch; i++) {
                later.passMinute();
                sum += later.pushed;
            }
            return sum;
        }

        int eatsSeatedAs(Table now, int guest, int other, int n) {
            later.become(now);
            if (guest != other) {
                later.swapSeats(guest, other);
            }
            passMinutes(n, MORE_THAN_CAN_BE_PUSHED);
            return later.of(Table.EATEN, guest) - now.of(Table.EATEN, guest);
        }

        int bestToSitAs(Table now, int guest, int n) {
            int best = 0;
            int most = -1;
            for (int other = 0; other < now.guests; other++) {
                int eats = eatsSeatedAs(now, guest, other, n);
                if (eats > most) {
                    most = eats;
                    best = other;
                }
            }
            return best;
        }

        /** The copy stands behind that minute then, with him on who ate the last portion. */
        int minuteOfLastPortion(Table now, int dish) {
            later.become(now);
            for (int when = 1; when <= MOST_SEARCHED; when++) {
                later.passMinute();
                boolean eatenOf = later.bite > 0 && later.dishEaten == dish;
                if (eatenOf && later.of(Table.PORTIONS, dish) == 0) {
                    return when;
                }
            }
            return NONE;
        }

        int minutesToRest(Table now) {
            later.become(now);
            int quiet = 0;
            for (int gone = 1; gone <= MOST_SEARCHED + now.guests; gone++) {
                later.passMinute();
                quiet = later.pushed == 0 && later.bite == 0 ? quiet + 1 : 0;
                if (quiet == now.guests) {
                    return gone - quiet;
                }
            }
            return NONE;
        }

        /**
         * Whoever is not served on the way to the left is served on the way to the right: the shorter
         * of the two ways is gone first, and back.
         */
        int turnsToServe(Table now) {
            int fewest = 2 * now.guests;
            for (int left = 0; left < now.guests; left++) {
                int right = toTheRightForOthers(now, left);
                fewest = Math.min(fewest, left + right + Math.min(left, right));
            }
            return fewest;
        }

        private static int toTheRightForOthers(Table now, int left) {
            int right = 0;
            for (int guest = 0; guest < now.guests; guest++) {
                int dish = now.of(Table.WANTS, guest);
                int needed = now.toTheLeft(guest, dish);
                if (now.has(dish) && needed > left) {
                    right = Math.max(right, now.guests - needed);
                }
            }
            return right;
        }

        /** An order that pushes as much as an earlier one is given up: of like ones the first counts. */
        int findBestSlots(Table now, int m) {
            int least = MORE_THAN_CAN_BE_PUSHED;
            for (int i = 0; i < slots.length; i++) {
                slots[i] = i;
            }
            boolean more = true;
            for (int tried = 0; more && tried < MORE_THAN_ALL_ORDERS && least > 0; tried++) {
                later.become(now);
                layAsTried();
                int sum = passMinutes(m, least);
                if (sum < least) {
                    least = sum;
                    System.arraycopy(slots, 0, bestSlots, 0, slots.length);
                }
                more = toNextOrder(now.guests);
            }
            return least;
        }

        int bestSlot(int dish) {
            return dish >= 0 && dish < bestSlots.length ? bestSlots[dish] : 0;
        }

        private void layAsTried() {
            for (int dish = 0; dish < later.guests && dish < slots.length; dish++) {
                later.layIn(dish, slots[dish]);
            }
        }

        /** Makes the first n slots their next greater order; false: there is none. */
        private boolean toNextOrder(int n) {
            int rise = Math.min(n, slots.length) - 2;
            while (rise >= 0 && slots[rise] > slots[rise + 1]) {
                rise--;
            }
            if (rise < 0) {
                return false;
            }
            int greater = Math.min(n, slots.length) - 1;
            while (greater > rise + 1 && slots[greater] < slots[rise]) {
                greater--;
            }
            swapTried(rise, greater);
            int high = Math.min(n, slots.length) - 1;
            for (int low = rise + 1; low < high; low++) {
                swapTried(low, high);
                high--;
            }
            return true;
        }

        private void swapTried(int i, int j) {
            if (within(i, 0, slots.length - 1) && within(j, 0, slots.length - 1)) {
                int kept = slots[i];
                slots[i] = slots[j];
                slots[j] = kept;
            }
        }

        int dishesToWant(Table now, int guest, int n, Row left, int from) {
            int bits = 0;
            for (int dish = 0; dish < now.guests; dish++) {
                later.become(now);
                later.put(Table.WANTS, guest, dish);
                passMinutes(n, MORE_THAN_CAN_BE_PUSHED);
                if (isLeft(left, from)) {
                    bits |= 1 << dish;
                }
            }
            return bits;
        }

        private boolean isLeft(Row left, int from) {
            for (int dish = 0; dish < later.guests; dish++) {
                if (left.item(from + dish) != later.of(Table.PORTIONS, dish)) {
                    return false;
                }
            }
            return true;
        }
    }

    /**
     * The bodies that answer the asks. A body of eaters looks for the mark among the bodies that eaters
     * have, one of deaf ones for the size among those of deaf ones: so none can come back to itself.
     */
    private static final class Asks {
        private final int[] numbers = new int[MOST_TRACED];
        private int left;
        private int guest;
        private int sort;
        private int wants;
        private int eaten;

        void begin(Table table, int asked) {
            left = 0;
            guest = asked;
            sort = table.of(Table.SORT, asked);
            wants = table.of(Table.WANTS, asked);
            eaten = table.of(Table.EATEN, asked);
        }

        int traced(int i) {
            return i >= 0 && i < left && i < numbers.length ? numbers[i] : NONE;
        }

        int size() {
            switch (sort) {
                case FAST: return size12();
                case DEAF: return size13();
                case DRUNK: return size14();
                default: return size11();
            }
        }

        int mark() {
            switch (sort) {
                case FAST: return mark24();
                case GREEDY: return mark22();
                case DEAF: return mark23();
                case DRUNK: return mark23();
                default: return mark21();
            }
        }

        private int size10() {
            leave(10);
            return eaten;
        }

        private int size11() {
            leave(11);
            int size = size10();
            switch (sort) {
                case FAST: return size + mark24();
                case GREEDY: return size + mark22();
                default: return size + mark21();
            }
        }

        private int size12() {
            leave(12);
            return -size11();
        }

        private int size13() {
            leave(13);
            return size10() - 100;
        }

        private int size14() {
            leave(14);
            return 2 * size13();
        }

        private int mark20() {
            leave(20);
            return guest;
        }

        private int mark21() {
            leave(21);
            return mark20() + wants;
        }

        private int mark22() {
            leave(22);
            return mark21() - 1000;
        }

        private int mark23() {
            leave(23);
            int mark = mark20();
            return mark - (sort == DRUNK ? size14() : size13());
        }

        private int mark24() {
            leave(24);
            return 2 * mark21();
        }

        private void leave(int number) {
            if (left >= 0 && left < numbers.length) {
                numbers[left] = number;
                left++;
            }
        }
    }
}
