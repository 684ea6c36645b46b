import java.util.List;

/** The boundary cases of promises 5 to 9: start, step, run, left, key. */
public final class BoundaryTurnsTest {
    private static final int MIN = Integer.MIN_VALUE;
    private static final int MAX = Integer.MAX_VALUE;
    private static final int NONE = KeyMaker.NONE;
    private static final Check CHECK = new Check();

    private BoundaryTurnsTest() {
    }

    public static void main(String[] args) {
        startWithoutPasswordOrSalt();
        startTakesTurns1To1000();
        startTakesBytes1To100();
        startAnswersTurnsOfAllParts();
        startNotWhenStarted();
        startAgainBehindReset();
        stepNotWhenNotStarted();
        stepUpToTheLast();
        stepNotWhenNoneIsLeft();
        runAtMostSoMany();
        runNotWhenNotStarted();
        runNotBelowZero();
        runWhenNoneIsLeft();
        leftNotWhenNotStarted();
        leftDownToZero();
        keyWhenItsPartHasNoTurnLeft();
        keyWithOneTurnAPart();
        keyHasNoOtherPlaces();
        keyNotWhenNotStarted();
        CHECK.end();
    }

    private static void startWithoutPasswordOrSalt() {
        CHECK.about("promise 5: \"also without password or salt\"");
        byte[][][] rows = {{Rows.EMPTY, Rows.EMPTY}, {Rows.row(1, 1), Rows.EMPTY}, {Rows.EMPTY, Rows.row(1, 2)},
            {Rows.row(1, 1), Rows.row(1, 2)}, {Rows.same(1, 0), Rows.same(1, 0)}, {Rows.EMPTY, Rows.row(80, 3)},
            {Rows.row(150, 4), Rows.EMPTY}, {Rows.row(150, 4), Rows.row(80, 3)}};
        for (byte[][] pair : rows) {
            dueStart(State.open(pair[0], pair[1]), 2, 33, 4);
        }
    }

    private static void startTakesTurns1To1000() {
        CHECK.about("promise 5: \"turns (1 .. 1000)\"");
        for (int turns : new int[] {1, 2, 999, 1000}) {
            dueStart(States.SOME, turns, 1, turns);
            dueStart(States.SOME, turns, 100, 4 * turns);
        }
        for (int turns : new int[] {0, -1, -1000, 1001, 1002, 1 << 30, -(1 << 30), MIN, MIN + 1, MAX - 1, MAX}) {
            for (int bytes : new int[] {1, 32, 100, 0, 101, MIN, MAX}) {
                States.SOME.dueChangesNothing(CHECK, Call.start(turns, bytes), NONE);
            }
        }
    }

    private static void startTakesBytes1To100() {
        CHECK.about("promise 5: \"bytes (1 .. 100)\"");
        for (int bytes : new int[] {1, 2, 99, 100}) {
            dueStart(States.SOME, 1, bytes, (bytes + 31) / 32);
            dueStart(States.SOME, 1000, bytes, (bytes + 31) / 32 * 1000);
        }
        int[] wrong = {0, -1, -31, -32, -100, 101, 102, 128, 1 << 30, MIN, MIN + 1, MAX - 31, MAX - 1, MAX};
        for (int bytes : wrong) {
            for (int turns : new int[] {1, 7, 1000, 0, 1001, MIN, MAX}) {
                States.SOME.dueChangesNothing(CHECK, Call.start(turns, bytes), NONE);
            }
        }
    }

    private static void startAnswersTurnsOfAllParts() {
        CHECK.about("promise 5: \"how many turns all its parts have together\"");
        int[][] bytesAndParts = {{1, 1}, {31, 1}, {32, 1}, {33, 2}, {63, 2}, {64, 2}, {65, 3}, {95, 3}, {96, 3},
            {97, 4}, {100, 4}};
        for (int[] pair : bytesAndParts) {
            dueStart(States.SOME, 1, pair[0], pair[1]);
            dueStart(States.SOME, 3, pair[0], 3 * pair[1]);
            dueStart(States.NEW, 1000, pair[0], 1000 * pair[1]);
        }
    }

    private static void startNotWhenStarted() {
        CHECK.about("promise 5: \"NONE when .. a key was started\"");
        for (State state : States.started()) {
            state.dueChangesNothing(CHECK, Call.start(state.turns, state.bytes), NONE);
            state.dueChangesNothing(CHECK, Call.start(1, 1), NONE);
            state.dueChangesNothing(CHECK, Call.start(1000, 100), NONE);
            state.dueChangesNothing(CHECK, Call.start(0, 101), NONE);
        }
        // A start that was refused is none.
        for (Call refused : List.of(Call.start(0, 1), Call.start(1001, 1), Call.start(1, 0), Call.start(1, 101))) {
            CountedMaker x = States.SOME.make();
            CHECK.due(refused.name(), refused.on(x), NONE);
            CHECK.due("start(1, 1) behind " + refused.name(), x.start(1, 1), 1);
        }
    }

    private static void startAgainBehindReset() {
        CHECK.about("promise 5: a start behind a reset begins anew");
        for (State state : States.started()) {
            CountedMaker x = state.make();
            x.reset();
            States.SOME.bring(x);
            CHECK.due(state + ", reset, start(3, 65)", x.start(3, 65), 9);
            State.started(States.SOME.password, States.SOME.salt, 3, 65).dueStill(CHECK, state + ", reset", x);
        }
    }

    private static void stepNotWhenNotStarted() {
        CHECK.about("promise 6: \"NONE when no key was started\"");
        for (State state : States.notStarted()) {
            state.dueChangesNothing(CHECK, Call.step(), NONE);
        }
        for (State state : States.started()) {
            CountedMaker x = state.make();
            x.reset();
            CHECK.due(state + ", reset, step()", x.step(), NONE);
            States.NEW.dueStill(CHECK, state + ", reset, step()", x);
        }
    }

    private static void stepUpToTheLast() {
        CHECK.about("promise 6: \"One turn .. Answers how many turns are left\"");
        int[][] keys = {{1, 1}, {2, 1}, {1, 32}, {1, 33}, {2, 33}, {3, 65}, {2, 100}, {1000, 1}};
        for (int[] k : keys) {
            State key = State.started(Rows.row(64, 5), Rows.row(8, 6), k[0], k[1]);
            for (int done = 0; done < key.all(); done += done < key.all() - 3 && done > 5 ? 100 : 1) {
                CountedMaker x = key.after(done).make();
                CHECK.due(key.after(done) + ": step()", x.step(), key.all() - done - 1);
                key.after(done + 1).dueStill(CHECK, key.after(done) + ", a step", x);
            }
            key.after(key.all()).dueChangesNothing(CHECK, Call.step(), NONE);
        }
        // From the first to the last on one object.
        CountedMaker x = State.started(Rows.row(3, 7), Rows.row(3, 8), 50, 100).make();
        for (int left = 199; left >= 0; left--) {
            CHECK.due("step()", x.step(), left);
        }
        CHECK.due("step() behind the last", x.step(), NONE);
        State.started(Rows.row(3, 7), Rows.row(3, 8), 50, 100).after(200).dueStill(CHECK, "behind 200 steps", x);
    }

    private static void stepNotWhenNoneIsLeft() {
        CHECK.about("promise 6: \"NONE when .. none is left\"");
        for (State state : States.turned()) {
            CountedMaker x = state.make();
            CHECK.due(state + ": step()", x.step(), NONE);
            CHECK.due(state + ": step() again", x.step(), NONE);
            state.dueStill(CHECK, state + ", two steps", x);
        }
        for (State state : States.turning()) {
            CHECK.due(state + ": step()", state.make().step(), state.left() - 1);
        }
    }

    private static void runAtMostSoMany() {
        CHECK.about("promise 7: \"As many turns as there are left, at most so many.\"");
        for (State state : States.turning()) {
            int left = state.left();
            for (int most : new int[] {0, 1, 2, left - 1, left, left + 1, 5000, MAX - 1, MAX}) {
                CountedMaker x = state.make();
                int turns = Math.min(most, left);
                CHECK.due(state + ": run(" + most + ")", x.run(most), turns);
                state.after(state.done + turns).dueStill(CHECK, state + ", run(" + most + ")", x);
            }
        }
        // Runs that end one before, at and one behind the last turn of a part.
        State key = State.started(Rows.row(65, 9), Rows.row(80, 10), 5, 100);
        for (int first = 0; first <= 20; first++) {
            CountedMaker x = key.after(first).make();
            CHECK.due("run(20) behind " + first, x.run(20), 20 - first);
            key.after(20).dueStill(CHECK, "run(20) behind " + first, x);
        }
    }

    private static void runNotWhenNotStarted() {
        CHECK.about("promise 7: \"NONE when no key was started\"");
        for (State state : States.notStarted()) {
            for (int most : new int[] {0, 1, MAX, -1, MIN}) {
                state.dueChangesNothing(CHECK, Call.run(most), NONE);
            }
        }
        for (State state : States.started()) {
            CountedMaker x = state.make();
            x.reset();
            CHECK.due(state + ", reset, run(0)", x.run(0), NONE);
            CHECK.due(state + ", reset, run(1)", x.run(1), NONE);
            States.NEW.dueStill(CHECK, state + ", reset, run", x);
        }
    }

    private static void runNotBelowZero() {
        CHECK.about("promise 7: \"NONE when .. most is below 0\"");
        for (State state : States.started()) {
            for (int most : new int[] {-1, -2, -1000, MIN + 1, MIN}) {
                state.dueChangesNothing(CHECK, Call.run(most), NONE);
            }
            state.dueChangesNothing(CHECK, Call.run(0), 0);
        }
    }

    private static void runWhenNoneIsLeft() {
        CHECK.about("promise 7: no turn is left: \"Answers how many these were\"");
        for (State state : States.turned()) {
            for (int most : new int[] {0, 1, 2, MAX}) {
                state.dueChangesNothing(CHECK, Call.run(most), 0);
            }
        }
    }

    private static void leftNotWhenNotStarted() {
        CHECK.about("promise 8: \"NONE when no key was started\"");
        for (State state : States.notStarted()) {
            state.dueChangesNothing(CHECK, Call.left(), NONE);
            CountedMaker x = state.make();
            CHECK.due("a refused start", x.start(1, 101), NONE);
            CHECK.due("left() behind a refused start", x.left(), NONE);
        }
        for (State state : States.started()) {
            CountedMaker x = state.make();
            x.reset();
            CHECK.due(state + ", reset, left()", x.left(), NONE);
        }
    }

    private static void leftDownToZero() {
        CHECK.about("promise 8: \"How many turns are left\"");
        for (State state : States.turning()) {
            state.dueChangesNothing(CHECK, Call.left(), state.left());
        }
        for (State state : States.turned()) {
            state.dueChangesNothing(CHECK, Call.left(), 0);
        }
        for (int[] k : new int[][] {{1, 1, 1}, {1000, 1, 1000}, {1, 100, 4}, {1000, 100, 4000}}) {
            CountedMaker x = new CountedMaker();
            x.start(k[0], k[1]);
            CHECK.due("left() behind start(" + k[0] + ", " + k[1] + ")", x.left(), k[2]);
            x.run(k[2] - 1);
            CHECK.due("left() before the last", x.left(), 1);
            x.step();
            CHECK.due("left() behind the last", x.left(), 0);
        }
    }

    private static void keyWhenItsPartHasNoTurnLeft() {
        CHECK.about("promise 9: \"when no turn of its part is left (other parts may have some); NONE otherwise\"");
        int[] bytes = {1, 31, 32, 33, 63, 64, 65, 95, 96, 97, 100};
        for (int count : bytes) {
            State key = State.started(Rows.row(20, 11), Rows.row(10, 12), 4, count);
            for (int done = 0; done <= key.all(); done++) {
                dueEveryPlace(key.after(done));
            }
        }
        State most = State.started(Rows.row(150, 11), Rows.row(80, 12), 1000, 100);
        for (int done : new int[] {999, 1000, 1999, 2000, 2999, 3000, 3999, 4000}) {
            dueEveryPlace(most.after(done));
        }
    }

    private static void keyWithOneTurnAPart() {
        CHECK.about("promise 9: a part of one turn is there behind it");
        for (int done = 0; done <= 4; done++) {
            dueEveryPlace(State.started(Rows.EMPTY, Rows.EMPTY, 1, 100).after(done));
        }
    }

    private static void keyHasNoOtherPlaces() {
        CHECK.about("promise 9: \"NONE .. when there is none such\"");
        for (State state : States.started()) {
            int[] places = {-1, -32, state.bytes, state.bytes + 1, 100, 127, 128, 129, MIN, MIN + 1, MAX - 1, MAX};
            for (int i : places) {
                state.dueChangesNothing(CHECK, Call.key(i), NONE);
            }
            state.dueChangesNothing(CHECK, Call.key(0), state.key(0));
            state.dueChangesNothing(CHECK, Call.key(state.bytes - 1), state.key(state.bytes - 1));
        }
    }

    private static void keyNotWhenNotStarted() {
        CHECK.about("promise 9: no key was started: \"there is none such\"");
        for (State state : States.notStarted()) {
            for (int i : new int[] {-1, 0, 1, 31, 32, 99, 100, MIN, MAX}) {
                state.dueChangesNothing(CHECK, Call.key(i), NONE);
            }
        }
        for (State state : States.turned()) {
            CountedMaker x = state.make();
            x.reset();
            for (int i = 0; i <= 100; i++) {
                CHECK.due(state + ", reset, key(" + i + ")", x.key(i), NONE);
            }
        }
    }

    private static void dueStart(State from, int turns, int bytes, int want) {
        CountedMaker x = from.make();
        String when = from + ", start(" + turns + ", " + bytes + ")";
        CHECK.due(when, x.start(turns, bytes), want);
        State.started(from.password, from.salt, turns, bytes).dueStill(CHECK, when, x);
    }

    private static void dueEveryPlace(State state) {
        CountedMaker x = state.make();
        for (int i = -1; i <= 129; i++) {
            CHECK.due(state + ": key(" + i + ")", x.key(i), state.key(i));
        }
        CHECK.due(state + ": key(MIN)", x.key(MIN), NONE);
        CHECK.due(state + ": key(MAX)", x.key(MAX), NONE);
        CHECK.due(state + ": left()", x.left(), state.left());
    }
}
