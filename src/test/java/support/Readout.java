import java.util.ArrayList;
import java.util.List;

/**
 * All that can be got out of an object, status() but for: what it tells at once, then the acts one by one,
 * the images, the tape, the rows. It takes some 400 calls and leaves the object used up.
 */
final class Readout {
    private static final int[] PLACES = {0, 2, 39};
    private static final int[] VALUES = {0, 3};

    private final TurningDishes x;
    private final List<Integer> told = new ArrayList<>();

    private Readout(TurningDishes x) {
        this.x = x;
    }

    static List<Integer> of(TurningDishes x) {
        Readout readout = new Readout(x);
        readout.trace();
        readout.table();
        readout.acts();
        for (int k = 0; k <= 1; k++) {
            readout.note(x.restore(k));
            readout.table();
        }
        readout.tape();
        readout.rows();
        return readout.told;
    }

    private void note(int answer) {
        told.add(answer);
    }

    private void trace() {
        note(x.fault());
        for (int i = 0; i < 7; i++) {
            note(x.trace(i));
        }
    }

    private void table() {
        for (int what = 0; what <= 6; what++) {
            note(x.count(what));
        }
        int guests = x.count(1);
        for (int i = 0; i < guests; i++) {
            note(x.guest(i, 0));
            note(x.guest(i, 1));
            note(x.guest(i, 2));
            note(x.kind(i));
            note(x.dish(i, 0));
            note(x.dish(i, 1));
        }
    }

    private void acts() {
        for (int i = 0; i <= 24; i++) {
            note(x.undo());
            note(x.count(2));
            note(x.count(3));
            note(x.count(4));
            note(x.guest(0, 0));
            note(x.dish(1, 1));
        }
    }

    private void tape() {
        note(x.table());
        note(x.fault());
        note(x.count(1));
        note(x.count(6));
    }

    private void rows() {
        Texts.feed(x, Items.ONE_GUEST);
        x.table();
        for (int v : VALUES) {
            for (int row = 0; row < 8; row++) {
                for (int i : PLACES) {
                    note(x.wanted(0, 0, row, i));
                }
            }
            x.fill(0, 3);
        }
        for (int row = 1; row < 8; row++) {
            note(x.copy(0, 0, row, 0, 0));
        }
        for (int row = 0; row < 8; row++) {
            note(x.drop(row));
        }
    }
}
