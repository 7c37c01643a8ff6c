import java.lang.reflect.InvocationTargetException;
import java.lang.reflect.Method;
import java.util.ArrayList;
import java.util.Arrays;
import java.util.List;

/**
 * Every call of the face with every set of some numbers, the last ones that are allowed, those beside them and
 * the farthest that there are, in four states: none may throw, and each answers as the model does.
 */
public final class FarNumbersTest {
    private static final int LOW = Integer.MIN_VALUE, HIGH = Integer.MAX_VALUE;

    /** The more numbers a call takes, the fewer are tried of each. */
    private static final int[][] NUMBERS = {
        {},
        {LOW, LOW + 1, -25, -2, -1, 0, 1, 2, 4, 5, 6, 7, 8, 23, 24, 25, 99, 100, 199, 255, 256, HIGH - 1, HIGH},
        {LOW, LOW + 1, -10, -9, -1, 0, 1, 2, 3, 5, 6, 7, 8, 9, 20, 21, 30, 31, 99, 100, HIGH - 1, HIGH},
        {LOW, -1, 0, 1, 2, 3, 5, 6, 7, 8, 39, 40, 41, 99, 100, HIGH},
        {LOW, -1, 0, 1, 5, 7, 8, 35, 99, 100, HIGH},
        {LOW, -1, 0, 1, 7, 40, 41, HIGH}};

    private static final long[] WORDS = {Long.MIN_VALUE, -1, 0, 1, 0x6775657374206465L, 0x61662030L, Long.MAX_VALUE};

    /** Far below the 512 that an object is used for: the state is made anew behind so many. */
    private static final int CALLS = 200;

    private static final String SIX = "guest eater 3;guest fast 5;guest greedy 0;guest deaf 3;guest drunk 1;guest fast 2;"
            + "dish 3;dish 0;dish 30;dish 2;dish 1;dish 29;";

    private final List<String> state;
    private final String text;
    private TurningDishes x;
    private Model y;
    private int calls;

    private FarNumbersTest(String text, String... state) {
        this.text = text;
        this.state = Arrays.asList(state);
    }

    public static void main(String[] args) throws ReflectiveOperationException {
        new FarNumbersTest("").sweep();
        new FarNumbersTest("guest drunk 0;dish 2;", "image", "rows", "tape").sweep();
        new FarNumbersTest(SIX, "rows", "turned", "image", "minutes").sweep();
        new FarNumbersTest(SIX, "late", "rows", "turned").sweep();
        Check.end();
    }

    private void sweep() throws ReflectiveOperationException {
        Method[] face = TurningDishes.class.getDeclaredMethods();
        Arrays.sort(face, (a, b) -> a.getName().compareTo(b.getName()));
        for (Method method : face) {
            if (java.lang.reflect.Modifier.isPublic(method.getModifiers())) {
                makeState();
                sweep(method, new ArrayList<>());
            }
        }
    }

    private void sweep(Method method, List<Number> numbers) throws ReflectiveOperationException {
        Class<?>[] types = method.getParameterTypes();
        if (numbers.size() == types.length) {
            compare(method, numbers.toArray());
            return;
        }
        boolean isLong = types[numbers.size()] == long.class;
        int tried = isLong ? WORDS.length : NUMBERS[types.length].length;
        for (int i = 0; i < tried; i++) {
            List<Number> more = new ArrayList<>(numbers);
            if (isLong) {
                more.add(WORDS[i]);
            } else {
                more.add(NUMBERS[types.length][i]);
            }
            sweep(method, more);
        }
    }

    private void compare(Method method, Object[] numbers) throws ReflectiveOperationException {
        if (calls == CALLS) {
            makeState();
        }
        calls++;
        String call = state + " " + method.getName() + Arrays.toString(numbers);
        int want = (int) Model.class.getDeclaredMethod(method.getName(), method.getParameterTypes()).invoke(y, numbers);
        try {
            Check.due(call, (int) method.invoke(x, numbers), want);
        } catch (InvocationTargetException thrown) {
            Check.holds(call + " threw " + thrown.getCause(), false);
        }
        Check.due("status() behind " + call, x.status(), y.status());
    }

    private void makeState() {
        calls = 0;
        x = new TurningDishes();
        y = new Model();
        feed(text);
        if (!text.isEmpty()) {
            Check.due("table() of " + text, x.table(), y.table());
        }
        for (String part : state) {
            make(part);
        }
    }

    private void make(String part) {
        switch (part) {
            case "image": same(x.image(0), y.image(0)); break;
            case "rows":
                same(x.row(0, 0, 40), y.row(0, 0, 40));
                same(x.row(1, 2, 40), y.row(1, 2, 40));
                same(x.row(7, 0, 7), y.row(7, 0, 7));
                break;
            case "tape":
                for (int i = 0; i < 37; i++) {
                    feed("guest de");
                }
                break;
            case "turned":
                same(x.turn(-2), y.turn(-2));
                same(x.change(0, 4), y.change(0, 4));
                same(x.lay(1, 5), y.lay(1, 5));
                break;
            case "minutes": same(x.minutes(5), y.minutes(5)); break;
            default:
                for (int i = 0; i < 41; i++) {
                    same(x.minutes(24), y.minutes(24));
                }
                same(x.fill(2, 30), y.fill(2, 30));
                break;
        }
    }

    private void feed(String words) {
        for (int at = 0; at < words.length(); at += 8) {
            int n = Math.min(8, words.length() - at);
            same(x.feed(Texts.word(words, at, n), n), y.feed(Texts.word(words, at, n), n));
        }
    }

    private void same(int got, int want) {
        Check.due("while the state " + state + " is made, a call", got, want);
    }
}
