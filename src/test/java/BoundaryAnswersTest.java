/** The boundary cases of promises 11 to 14: many, sum, mark, word. */
public final class BoundaryAnswersTest {
    private static final int MIN = Integer.MIN_VALUE;
    private static final int MAX = Integer.MAX_VALUE;
    private static final int NONE = KeyMaker.NONE;
    private static final int[] NO_PLACES = {-1, -2, -31, -32, 32, 33, 64, 255, 256, MIN, MIN + 1, MAX - 1, MAX};
    private static final Check CHECK = new Check();

    private BoundaryAnswersTest() {
    }

    public static void main(String[] args) {
        manyOfTheKey();
        manyOfTheRows();
        manyOfAnother();
        sumOfThePassword();
        sumHas32Places();
        markOfTheSalt();
        markHas32Places();
        fixedWords();
        noOtherWords();
        CHECK.end();
    }

    private static void manyOfTheKey() {
        CHECK.about("promise 11: \"2 of the key that was started (0 when none was)\"");
        for (State state : States.notStarted()) {
            state.dueChangesNothing(CHECK, Call.many(2), 0);
            CountedMaker refused = state.make();
            refused.start(1, 101);
            refused.start(1001, 100);
            CHECK.due(state + ", starts that are refused: many(2)", refused.many(2), 0);
        }
        for (State state : States.started()) {
            state.dueChangesNothing(CHECK, Call.many(2), state.bytes);
            CountedMaker again = state.make();
            again.start(1, 50);
            CHECK.due(state + ", a start that is refused: many(2)", again.many(2), state.bytes);
            again.reset();
            CHECK.due(state + ", reset: many(2)", again.many(2), 0);
        }
        for (int bytes = 1; bytes <= 100; bytes++) {
            CountedMaker x = new CountedMaker();
            x.start(1, bytes);
            CHECK.due("many(2)", x.many(2), bytes);
        }
    }

    private static void manyOfTheRows() {
        CHECK.about("promise 11: \"what = 0 of the password, 1 of the salt\"");
        CountedMaker x = new CountedMaker();
        for (int n = 0; n <= 151; n++) {
            CHECK.due("many(0)", x.many(0), Math.min(n, 150));
            CHECK.due("password", x.password(n), n < 150);
        }
        CHECK.due("many(1) of a full password", x.many(1), 0);
        CountedMaker y = new CountedMaker();
        for (int n = 0; n <= 81; n++) {
            CHECK.due("many(1)", y.many(1), Math.min(n, 80));
            CHECK.due("salt", y.salt(n), n < 80);
        }
        CHECK.due("many(0) of a full salt", y.many(0), 0);
        for (State state : States.all()) {
            state.dueChangesNothing(CHECK, Call.many(0), state.password.length);
            state.dueChangesNothing(CHECK, Call.many(1), state.salt.length);
        }
    }

    private static void manyOfAnother() {
        CHECK.about("promise 11: \"NONE for another what\"");
        for (State state : States.all()) {
            for (int what : new int[] {-1, -2, 3, 4, 256, 1 << 16, MIN, MIN + 1, MIN + 2, MAX - 1, MAX}) {
                state.dueChangesNothing(CHECK, Call.many(what), NONE);
            }
        }
    }

    private static void sumOfThePassword() {
        CHECK.about("promise 12: \"which may be empty; a key may be started\"");
        for (State state : States.all()) {
            byte[] sum = Reference.sumOf(state.password);
            CountedMaker x = state.make();
            for (int i = 0; i < 32; i++) {
                CHECK.due(state + ": sum(" + i + ")", x.sum(i), sum[i] & 255);
            }
            state.dueStill(CHECK, state + ", asked for its sum", x);
        }
        // The salt is not in it.
        CountedMaker x = State.open(Rows.EMPTY, Rows.row(80, 1)).make();
        for (int i = 0; i < 32; i++) {
            CHECK.due("salt alone: sum(" + i + ")", x.sum(i), Reference.sumOf(Rows.EMPTY)[i] & 255);
        }
    }

    private static void sumHas32Places() {
        CHECK.about("promise 12: \"NONE when i is not 0 .. 31\"");
        for (State state : States.all()) {
            byte[] sum = Reference.sumOf(state.password);
            state.dueChangesNothing(CHECK, Call.sum(0), sum[0] & 255);
            state.dueChangesNothing(CHECK, Call.sum(31), sum[31] & 255);
            for (int i : NO_PLACES) {
                state.dueChangesNothing(CHECK, Call.sum(i), NONE);
            }
        }
    }

    private static void markOfTheSalt() {
        CHECK.about("promise 13: \"Byte i of the mark of the salt under the password\"");
        for (State state : States.all()) {
            byte[] mark = Reference.markOf(state.password, state.salt);
            CountedMaker x = state.make();
            for (int i = 0; i < 32; i++) {
                CHECK.due(state + ": mark(" + i + ")", x.mark(i), mark[i] & 255);
            }
            state.dueStill(CHECK, state + ", asked for its mark", x);
        }
        dueMarksBetweenTurns();
    }

    /** The number of a part, which a turn puts behind the salt, is not of the salt. */
    private static void dueMarksBetweenTurns() {
        State key = State.started(Rows.row(64, 2), Rows.row(80, 3), 2, 100);
        byte[] mark = Reference.markOf(key.password, key.salt);
        CountedMaker x = key.make();
        for (int left = 7; left >= 0; left--) {
            CHECK.due("step()", x.step(), left);
            CHECK.due("mark(0) between turns", x.mark(0), mark[0] & 255);
            CHECK.due("mark(31) between turns", x.mark(31), mark[31] & 255);
        }
        key.after(8).dueStill(CHECK, "asked for marks between turns", x);
    }

    private static void markHas32Places() {
        CHECK.about("promise 13: \"NONE likewise\"");
        for (State state : States.all()) {
            byte[] mark = Reference.markOf(state.password, state.salt);
            state.dueChangesNothing(CHECK, Call.mark(0), mark[0] & 255);
            state.dueChangesNothing(CHECK, Call.mark(31), mark[31] & 255);
            for (int i : NO_PLACES) {
                state.dueChangesNothing(CHECK, Call.mark(i), NONE);
            }
        }
    }

    private static void fixedWords() {
        CHECK.about("promise 14: \"A fixed word: K(i) (which = 0) or H(i) (1)\"");
        int[] primes = Reference.primes(64);
        CHECK.due("the 0th prime", primes[0], 2);
        CHECK.due("the 63rd prime", primes[63], 311);
        CountedMaker x = new CountedMaker();
        for (int i = 0; i < 64; i++) {
            CHECK.due("word(0, " + i + ")", x.word(0, i), Reference.rootBits(primes[i], 3));
        }
        for (int i = 0; i < 8; i++) {
            CHECK.due("word(1, " + i + ")", x.word(1, i), Reference.rootBits(primes[i], 2));
        }
        // The first and the last of each, whatever the state is.
        for (State state : States.all()) {
            state.dueChangesNothing(CHECK, Call.word(0, 0), 0x428a2f98);
            state.dueChangesNothing(CHECK, Call.word(0, 63), 0xc67178f2);
            state.dueChangesNothing(CHECK, Call.word(1, 0), 0x6a09e667);
            state.dueChangesNothing(CHECK, Call.word(1, 7), 0x5be0cd19);
        }
    }

    private static void noOtherWords() {
        CHECK.about("promise 14: \"0 when there is none such\"");
        int[][] none = {{0, -1}, {0, 64}, {0, 65}, {0, MIN}, {0, MAX},
            {1, -1}, {1, 8}, {1, 9}, {1, 63}, {1, MIN}, {1, MAX},
            {-1, 0}, {-1, 7}, {2, 0}, {2, 7}, {3, 0}, {256, 0}, {MIN, 0}, {MIN + 1, 0}, {MAX, 0}, {MAX, 7},
            {-1, -1}, {2, 64}, {MIN, MIN}, {MAX, MAX}};
        for (int[] n : none) {
            for (State state : States.all()) {
                CHECK.due(state + ": word(" + n[0] + ", " + n[1] + ")", state.make().word(n[0], n[1]), 0);
            }
            States.SOME.dueChangesNothing(CHECK, Call.word(n[0], n[1]), 0);
        }
    }
}
