import java.util.LinkedHashMap;
import java.util.Map;

/** "A call that is refused changes nothing": in each state each call that is refused there, alone and behind others. */
public final class RefusedCallsTest {
    private static final int MIN = Integer.MIN_VALUE;
    private static final int MAX = Integer.MAX_VALUE;
    private static final int[] NO_BYTES = {-1, 256, MIN, MAX};
    private static final int[][] NO_STARTS = {{0, 1}, {1001, 1}, {1, 0}, {1, 101},
        {MIN, 1}, {MAX, 1}, {1, MIN}, {1, MAX}};
    private static final int[][] STARTS = {{1, 1}, {1000, 100}, {7, 33}};
    private static final int[] NO_PLACES = {-1, 32, MIN, MAX};
    private static final int[] NO_MANY = {-1, 3, MIN, MAX};
    private static final int[] PLACES_OF_KEY = {-1, 0, 31, 32, 63, 64, 69, 70, 99, 100, 127, 128, MIN, MAX};
    private static final int[][] NO_WORDS = {{0, -1}, {0, 64}, {1, -1}, {1, 8}, {-1, 0}, {2, 0},
        {MIN, 0}, {MAX, 0}, {0, MIN}, {1, MAX}};
    private static final Check CHECK = new Check();

    private RefusedCallsTest() {
    }

    public static void main(String[] args) {
        CHECK.about("\"A call that is refused changes nothing.\"");
        for (State state : States.all()) {
            Map<Call, Integer> refused = refusedIn(state);
            refused.forEach((call, want) -> state.dueChangesNothing(CHECK, call, want));
            dueAllInARow(state, refused);
        }
        CHECK.end();
    }

    private static void dueAllInARow(State state, Map<Call, Integer> refused) {
        CountedMaker x = state.make();
        refused.forEach((call, want) -> CHECK.due(state + ": " + call.name(), call.on(x), want));
        state.dueStill(CHECK, state + ", behind all refused calls", x);
    }

    private static Map<Call, Integer> refusedIn(State state) {
        Map<Call, Integer> refused = new LinkedHashMap<>();
        addRows(refused, state);
        addTurns(refused, state);
        addPlaces(refused, state);
        return refused;
    }

    private static void addRows(Map<Call, Integer> refused, State state) {
        for (int b : NO_BYTES) {
            refused.put(Call.password(b), 0);
            refused.put(Call.salt(b), 0);
        }
        if (state.isStarted() || state.password.length == 150) {
            refused.put(Call.password(0), 0);
            refused.put(Call.password(255), 0);
        }
        if (state.isStarted() || state.password.length > 146) {
            refused.put(Call.four(0), 0);
            refused.put(Call.four(MIN), 0);
            refused.put(Call.four(MAX), 0);
        }
        if (state.isStarted() || state.salt.length == 80) {
            refused.put(Call.salt(0), 0);
            refused.put(Call.salt(255), 0);
        }
    }

    private static void addTurns(Map<Call, Integer> refused, State state) {
        for (int[] s : NO_STARTS) {
            refused.put(Call.start(s[0], s[1]), KeyMaker.NONE);
        }
        if (state.isStarted()) {
            for (int[] s : STARTS) {
                refused.put(Call.start(s[0], s[1]), KeyMaker.NONE);
            }
        }
        if (state.left() <= 0) {
            refused.put(Call.step(), KeyMaker.NONE);
        }
        refused.put(Call.run(-1), KeyMaker.NONE);
        refused.put(Call.run(MIN), KeyMaker.NONE);
        if (!state.isStarted()) {
            refused.put(Call.run(0), KeyMaker.NONE);
            refused.put(Call.run(1), KeyMaker.NONE);
            refused.put(Call.run(MAX), KeyMaker.NONE);
            refused.put(Call.left(), KeyMaker.NONE);
        }
    }

    private static void addPlaces(Map<Call, Integer> refused, State state) {
        for (int i : PLACES_OF_KEY) {
            if (state.key(i) == KeyMaker.NONE) {
                refused.put(Call.key(i), KeyMaker.NONE);
            }
        }
        for (int i : NO_PLACES) {
            refused.put(Call.sum(i), KeyMaker.NONE);
            refused.put(Call.mark(i), KeyMaker.NONE);
        }
        for (int what : NO_MANY) {
            refused.put(Call.many(what), KeyMaker.NONE);
        }
        for (int[] w : NO_WORDS) {
            refused.put(Call.word(w[0], w[1]), 0);
        }
    }
}
