import java.lang.reflect.Array;
import java.lang.reflect.Field;
import java.lang.reflect.Modifier;
import java.util.ArrayDeque;
import java.util.Collections;
import java.util.Deque;
import java.util.IdentityHashMap;
import java.util.Set;

/**
 * All calls of one run live in one room. What hangs on an object is counted when it is new and behind 512
 * calls: it is little, and it does not grow. (LanguageTest holds that no method makes an object at all.)
 */
public final class RoomTest {
    private static final int MOST_OBJECTS = 100, MOST_NUMBERS = 3000;

    private final Set<Object> objects = Collections.newSetFromMap(new IdentityHashMap<>());
    private int numbers;

    private RoomTest() {
    }

    public static void main(String[] args) throws IllegalAccessException {
        TurningDishes x = new TurningDishes();
        RoomTest made = of(x);
        Check.holds(made.objects.size() + " objects are made at most " + MOST_OBJECTS, made.objects.size() <= MOST_OBJECTS);
        Check.holds(made.numbers + " fields and elements are at most " + MOST_NUMBERS, made.numbers <= MOST_NUMBERS);
        use(x);
        RoomTest used = of(x);
        Check.due("objects behind 512 calls", used.objects.size(), made.objects.size());
        Check.due("fields and elements behind 512 calls", used.numbers, made.numbers);
        Check.end();
    }

    /** The dearest calls, and each of those that keep something, as often as they can be made. */
    private static void use(TurningDishes x) {
        String text = "guest eater 5;guest fast 4;guest greedy 3;guest drunk 2;guest deaf 1;guest eater 0;"
                + "dish 9;dish 9;dish 9;dish 9;dish 9;dish 9;";
        Texts.feed(x, text);
        x.table();
        for (int i = 0; i < 8; i++) {
            x.row(i, 2, 40);
        }
        for (int i = 0; i < 60; i++) {
            x.minutes(7);
            x.image(i % 2);
            x.laid(20, -1);
            x.seated(1, 99, 1);
            x.wanted(1, 99, 0, 0);
            x.ask(3, 1);
        }
        while (x.count(6) < 300) {
            x.feed(0x2020202020202020L, Math.min(8, 300 - x.count(6)));
        }
    }

    private static RoomTest of(Object root) throws IllegalAccessException {
        RoomTest room = new RoomTest();
        Deque<Object> open = new ArrayDeque<>();
        open.add(root);
        while (!open.isEmpty()) {
            Object next = open.remove();
            if (room.objects.add(next)) {
                room.count(next, open);
            }
        }
        return room;
    }

    private void count(Object object, Deque<Object> open) throws IllegalAccessException {
        if (object.getClass().isArray()) {
            numbers += Array.getLength(object);
            for (int i = 0; object instanceof Object[] all && i < all.length; i++) {
                follow(all[i], open);
            }
            return;
        }
        for (Field field : object.getClass().getDeclaredFields()) {
            if (!Modifier.isStatic(field.getModifiers())) {
                numbers++;
                field.setAccessible(true);
                if (!field.getType().isPrimitive()) {
                    follow(field.get(object), open);
                }
            }
        }
    }

    private static void follow(Object object, Deque<Object> open) {
        if (object != null) {
            open.add(object);
        }
    }
}
