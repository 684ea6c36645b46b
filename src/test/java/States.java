import java.util.ArrayList;
import java.util.List;

/** States for the tests: what a boundary separates stands on both sides of it. */
final class States {
    static final State NEW = State.open(Rows.EMPTY, Rows.EMPTY);
    static final State SOME = State.open(Rows.row(9, 21), Rows.row(4, 22));
    static final State FULL = State.open(Rows.row(150, 23), Rows.row(80, 24));

    // Each is made once: its key is dear.
    private static final State LEAST_KEY = State.started(Rows.EMPTY, Rows.EMPTY, 1, 1);
    private static final State SOME_KEY = State.started(Rows.row(65, 37), Rows.row(10, 38), 3, 70);
    private static final State MOST_KEY = State.started(Rows.row(150, 39), Rows.row(80, 40), 1000, 100);

    private States() {
    }

    static List<State> notStarted() {
        return List.of(NEW, SOME, FULL,
            State.open(Rows.row(1, 25), Rows.EMPTY),
            State.open(Rows.EMPTY, Rows.row(1, 26)),
            State.open(Rows.row(64, 27), Rows.row(79, 28)),
            State.open(Rows.row(65, 29), Rows.row(80, 30)),
            State.open(Rows.row(146, 31), Rows.row(3, 32)),
            State.open(Rows.row(147, 33), Rows.row(3, 34)),
            State.open(Rows.row(149, 35), Rows.row(3, 36)));
    }

    /** Started, and at least one turn is left. */
    static List<State> turning() {
        List<State> states = new ArrayList<>();
        add(states, LEAST_KEY, 0);
        add(states, SOME_KEY, 0, 1, 2, 3, 4, 6, 8);
        add(states, MOST_KEY, 0, 999, 1000, 3999);
        return states;
    }

    /** Started, and no turn is left. */
    static List<State> turned() {
        List<State> states = new ArrayList<>();
        add(states, LEAST_KEY, 1);
        add(states, SOME_KEY, 9);
        add(states, MOST_KEY, 4000);
        return states;
    }

    static List<State> started() {
        List<State> states = new ArrayList<>(turning());
        states.addAll(turned());
        return states;
    }

    static List<State> all() {
        List<State> states = new ArrayList<>(notStarted());
        states.addAll(started());
        return states;
    }

    private static void add(List<State> states, State first, int... turnsDone) {
        for (int done : turnsDone) {
            states.add(first.after(done));
        }
    }
}
