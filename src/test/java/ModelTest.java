import java.util.Random;

/** Runs of calls by chance (the same ones each time), answered by the program and by the model. */
public final class ModelTest {
    private static final String[] SORTS = {"eater", "fast", "greedy", "deaf", "drunk"};

    /** Of 512: a new table and the look at all in the end, some 90 calls, come behind them. */
    private static final int CALLS = 412;

    private final Random random;
    private final int run;
    private final TurningDishes x = new TurningDishes();
    private final Model y = new Model();
    private int calls = 0;

    private ModelTest(int run) {
        this.run = run;
        this.random = new Random(run);
    }

    public static void main(String[] args) {
        for (int run = 0; run < 600; run++) {
            new ModelTest(run).go();
        }
        Check.end();
    }

    private void go() {
        while (calls < CALLS) {
            if (calls == 0 || random.nextInt(60) == 0) {
                newTable();
            } else {
                oneCall(random.nextInt(33));
            }
        }
        lookAtAll();
    }

    private void compare(String call, long got, long want) {
        calls++;
        Check.due("run " + run + ", call " + calls + ": " + call, got, want);
    }

    private int upTo(int least, int most) {
        return least + random.nextInt(most - least + 1);
    }

    /** Mostly a number as told, now and then one beside it or far away. */
    private int near(int least, int most) {
        switch (random.nextInt(25)) {
            case 0: return least - 1;
            case 1: return most + 1;
            case 2: return random.nextBoolean() ? Integer.MIN_VALUE : Integer.MAX_VALUE;
            default: return upTo(least, most);
        }
    }

    private int who() {
        return near(0, Math.max(0, y.count(1) - 1));
    }

    private String text() {
        StringBuilder text = new StringBuilder();
        int guests = random.nextInt(12) == 0 ? 7 : upTo(1, 6);
        int dishes = random.nextInt(12) == 0 ? guests + 1 : random.nextInt(3) == 0 ? upTo(0, guests) : guests;
        int most = random.nextBoolean() ? 4 : 30;
        String blank = random.nextInt(4) == 0 ? " \n" : " ";
        for (int i = 0; i < guests; i++) {
            int wants = random.nextInt(8) == 0 ? upTo(0, 5) : upTo(0, Math.min(5, guests - 1));
            text.append("guest").append(blank).append(SORTS[random.nextInt(5)]).append(wants).append(';');
        }
        for (int i = 0; i < dishes; i++) {
            text.append("dish").append(upTo(0, most)).append(random.nextBoolean() ? ";" : " ;");
        }
        if (random.nextInt(3) == 0) {
            spoil(text);
        }
        return text.toString();
    }

    private void spoil(StringBuilder text) {
        int at = random.nextInt(text.length());
        switch (random.nextInt(5)) {
            case 0: text.setLength(at); break;
            case 1: text.deleteCharAt(at); break;
            case 2: text.insert(at, "0123456789 \n;gd#A\u0000\u00ff".charAt(random.nextInt(19))); break;
            case 3: text.insert(text.indexOf(";") + 1, random.nextBoolean() ? "dish 3;" : "guest eater 1;"); break;
            default: text.append(random.nextBoolean() ? "guest fast 0;" : "dish 0031 ;"); break;
        }
    }

    private void newTable() {
        String text = text();
        for (int at = 0; at < text.length(); at += 8) {
            int n = Math.min(8, text.length() - at);
            long w = Texts.word(text, at, n);
            compare("feed(" + w + ", " + n + ")", x.feed(w, n), y.feed(w, n));
        }
        compare("table() of " + text, x.table(), y.table());
        compare("fault()", x.fault(), y.fault());
    }

    private void lookAtAll() {
        for (int what = -1; what <= 7; what++) {
            compare("count(" + what + ")", x.count(what), y.count(what));
        }
        for (int g = 0; g < 6; g++) {
            for (int what = 0; what < 4; what++) {
                compare("guest(" + g + ", " + what + ")", x.guest(g, what), y.guest(g, what));
            }
        }
        for (int d = 0; d < 6; d++) {
            compare("dish(" + d + ", 0)", x.dish(d, 0), y.dish(d, 0));
            compare("dish(" + d + ", 1)", x.dish(d, 1), y.dish(d, 1));
        }
    }

    private void oneCall(int which) {
        if (which < 8) {
            callOfRows(which);
        } else if (which < 16) {
            callThatChanges(which);
        } else if (which < 25) {
            callThatForetells(which);
        } else {
            callThatAsks(which);
        }
        if (random.nextInt(3) == 0) {
            compare("status()", x.status(), y.status());
        }
    }

    private void callOfRows(int which) {
        int a = near(0, 2);
        int b = near(0, 2);
        int i = near(0, 8);
        int j = near(0, 8);
        int n = near(0, 10);
        int v = random.nextBoolean() ? upTo(0, 5) : random.nextInt();
        String told = a + ", " + i + ", " + b + ", " + j + ", " + n + ", " + v;
        switch (which) {
            case 0: compare("row " + told, x.row(a, b, near40(n)), y.row(a, b, near40(n))); break;
            case 1: case 2: case 3: compare("set " + told, x.set(a, i, v), y.set(a, i, v)); break;
            case 4: case 5: compare("copy " + told, x.copy(a, i, b, j, n), y.copy(a, i, b, j, n)); break;
            case 6:
                if (random.nextInt(4) == 0) {
                    compare("drop " + a, x.drop(a), y.drop(a));
                }
                break;
            default:
                if (random.nextInt(4) == 0) {
                    long w = random.nextLong();
                    compare("feed " + n, x.feed(w, n), y.feed(w, n));
                    compare("count(6)", x.count(6), y.count(6));
                    compare("table()", x.table(), y.table());
                    compare("fault()", x.fault(), y.fault());
                }
                break;
        }
    }

    private static int near40(int n) {
        return n == 11 ? 41 : n == 10 ? 40 : n;
    }

    private void callThatChanges(int which) {
        int a = who();
        int b = who();
        int n = near(1, random.nextBoolean() ? 3 : 24);
        int k = near(-9, 9);
        int image = near(0, 1);
        switch (which) {
            case 8: case 9: compare("minutes " + n, x.minutes(n), y.minutes(n)); break;
            case 10: compare("turn " + k, x.turn(k), y.turn(k)); break;
            case 11: compare("fill " + a + ", " + n, x.fill(a, n), y.fill(a, n)); break;
            case 12: compare("change " + a + ", " + b, x.change(a, b), y.change(a, b)); break;
            case 13: compare("lay " + a + ", " + b, x.lay(a, b), y.lay(a, b)); break;
            case 14: compare("undo", x.undo(), y.undo()); break;
            default:
                if (random.nextBoolean()) {
                    compare("image " + image, x.image(image), y.image(image));
                } else if (random.nextInt(3) == 0) {
                    compare("restore " + image, x.restore(image), y.restore(image));
                }
                break;
        }
    }

    private void callThatForetells(int which) {
        int a = who();
        int n = near(0, random.nextBoolean() ? 12 : 99);
        int what = near(0, 1);
        switch (which) {
            case 16: compare("ahead " + n + ", " + what, x.ahead(n, what), y.ahead(n, what)); break;
            case 17: compare("dishAhead " + a + ", " + n, x.dishAhead(a, n), y.dishAhead(a, n)); break;
            case 18: compare("guestAhead " + a + ", " + n, x.guestAhead(a, n), y.guestAhead(a, n)); break;
            case 19: compare("last " + a + ", " + what, x.last(a, what), y.last(a, what)); break;
            case 20: compare("hungry " + n, x.hungry(n), y.hungry(n)); break;
            case 21: compare("served", x.served(), y.served()); break;
            case 22: compare("seated " + a + ", " + n + ", " + what, x.seated(a, n, what), y.seated(a, n, what)); break;
            case 23: wanted(a, n); break;
            default:
                if (random.nextInt(4) == 0) {
                    compare("rest", x.rest(), y.rest());
                }
                if (random.nextInt(12) == 0) {
                    int m = near(1, 20);
                    int k = near(-1, 5);
                    compare("laid " + m + ", " + k, x.laid(m, k), y.laid(m, k));
                }
                break;
        }
    }

    /** Half of the rows tell what is indeed left for one of the dishes that the guest may want. */
    private void wanted(int guest, int n) {
        int row = near(0, 2);
        int i = near(0, 4);
        if (random.nextBoolean() && y.count(1) > 0) {
            compare("row", x.row(row, 1, 40), y.row(row, 1, 40));
            for (int d = 0; d < y.count(1); d++) {
                int left = y.dishAhead(d, n);
                compare("set", x.set(row, i + d, left), y.set(row, i + d, left));
            }
        }
        compare("wanted " + guest + ", " + n + ", " + row + ", " + i, x.wanted(guest, n, row, i),
                y.wanted(guest, n, row, i));
    }

    private void callThatAsks(int which) {
        int a = who();
        int what = near(0, 1);
        int kind = near(0, 5);
        int g = near(0, 3);
        int counted = near(0, 6);
        switch (which) {
            case 25: compare("kind " + a, x.kind(a), y.kind(a)); break;
            case 26: compare("as " + a + ", " + kind, x.as(a, kind), y.as(a, kind)); break;
            case 27:
                compare("ask " + a + ", " + what, x.ask(a, what), y.ask(a, what));
                for (int i = -1; i < 8; i++) {
                    compare("trace " + i, x.trace(i), y.trace(i));
                }
                break;
            case 28: case 29: compare("guest " + a + ", " + g, x.guest(a, g), y.guest(a, g)); break;
            case 30: compare("dish " + a + ", " + what, x.dish(a, what), y.dish(a, what)); break;
            default: compare("count " + counted, x.count(counted), y.count(counted)); break;
        }
    }
}
