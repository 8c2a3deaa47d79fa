import java.util.Arrays;

/** All that an object tells of its state, in one row. */
final class Told {
    private static final int STATES = 15;
    private static final int TEXT = 16;

    private Told() {
    }

    /** All of it, but for the states in the history and the length of the text, which are no part of a state. */
    static int[] all(GrainLeg leg) {
        int[] row = new int[25 + 12 + 12 + 18];
        int size = 0;
        for (int what = 0; what < 25; what++) {
            row[size++] = what == STATES || what == TEXT ? 0 : leg.count(what);
        }
        for (int place = 0; place < 12; place++) {
            row[size++] = leg.bucket(place);
        }
        for (int i = 0; i < 12; i++) {
            row[size++] = leg.sensor(i / 4, i % 4);
        }
        for (int i = 0; i < 18; i++) {
            row[size++] = leg.trip(i / 3, i % 3);
        }
        return row;
    }

    /** The state, and what is no part of one: history, text and latest stop, as far as they are told. */
    static int[] everything(GrainLeg leg) {
        int[] state = all(leg);
        int[] row = Arrays.copyOf(state, state.length + 4);
        row[state.length] = leg.count(STATES);
        row[state.length + 1] = leg.count(TEXT);
        row[state.length + 2] = leg.stopped(0);
        row[state.length + 3] = leg.stopped(1);
        return row;
    }
}
