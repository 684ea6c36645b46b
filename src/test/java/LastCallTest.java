import java.util.List;

/** "An object is used for at most 512 calls": all promises hold up to the 512th call. */
public final class LastCallTest {
    private static final int NONE = KeyMaker.NONE;
    private static final Check CHECK = new Check();

    private LastCallTest() {
    }

    public static void main(String[] args) {
        CHECK.about("\"at most 512 calls\"");
        lastCallInEachState();
        lastCallFills();
        resetIsTheLastButOne();
        stepsAlone();
        foursAlone();
        refusedCallsAlone();
        sumsAndMarksAlone();
        longestKeysAgainAndAgain();
        startsAndResetsAlone();
        CHECK.end();
    }

    /** The 512th call is answered as it would have been at once. */
    private static void lastCallInEachState() {
        for (State state : States.all()) {
            boolean room = !state.isStarted();
            int left = state.left();
            dueLast(state, Call.password(5), room && state.password.length < 150 ? 1 : 0);
            dueLast(state, Call.password(256), 0);
            dueLast(state, Call.four(5), room && state.password.length <= 146 ? 1 : 0);
            dueLast(state, Call.salt(5), room && state.salt.length < 80 ? 1 : 0);
            dueLast(state, Call.salt(-1), 0);
            dueLast(state, Call.start(1000, 100), room ? 4000 : NONE);
            dueLast(state, Call.start(1001, 100), NONE);
            dueLast(state, Call.step(), left > 0 ? left - 1 : NONE);
            dueLast(state, Call.run(5000), left);
            dueLast(state, Call.run(-1), NONE);
            dueLast(state, Call.left(), left);
            dueLast(state, Call.key(0), state.key(0));
            dueLast(state, Call.key(99), state.key(99));
            dueLast(state, Call.many(0), state.password.length);
            dueLast(state, Call.many(1), state.salt.length);
            dueLast(state, Call.many(2), state.bytes);
            dueLast(state, Call.many(3), NONE);
            dueLast(state, Call.sum(31), Reference.sumOf(state.password)[31] & 255);
            dueLast(state, Call.sum(32), NONE);
            dueLast(state, Call.mark(31), Reference.markOf(state.password, state.salt)[31] & 255);
            dueLast(state, Call.mark(32), NONE);
            dueLast(state, Call.word(0, 63), 0xc67178f2);
            dueLast(state, Call.word(1, 8), 0);
        }
    }

    private static void lastCallFills() {
        byte[] password = Rows.row(150, 1);
        CountedMaker x = State.open(Rows.row(149, 1), Rows.EMPTY).make();
        waste(x, 2);
        CHECK.due("the 150th byte at call 511", x.password(password[149] & 255), true);
        CHECK.due("the 151st at call 512", x.password(1), false);
        CountedMaker y = State.open(Rows.row(149, 1), Rows.EMPTY).make();
        waste(y, 2);
        CHECK.due("the 150th byte at call 511", y.password(password[149] & 255), true);
        CHECK.due("sum(0) at call 512", y.sum(0), Reference.sumOf(password)[0] & 255);
        State last = State.started(password, Rows.row(80, 2), 2, 100);
        CountedMaker z = last.after(7).make();
        waste(z, 3);
        CHECK.due("key(99) before the last turn", z.key(99), NONE);
        CHECK.due("the last turn at call 511", z.step(), 0);
        CHECK.due("key(99) at call 512", z.key(99), last.after(8).key(99));
    }

    private static void resetIsTheLastButOne() {
        for (State state : States.all()) {
            for (Call call : List.of(Call.many(0), Call.many(1), Call.many(2))) {
                CountedMaker x = state.make();
                waste(x, 2);
                x.reset();
                CHECK.due(state + ", reset at call 511: " + call.name(), call.on(x), 0);
            }
            CountedMaker x = state.make();
            waste(x, 2);
            x.reset();
            CHECK.due(state + ", reset at call 511: left()", x.left(), NONE);
        }
    }

    private static void stepsAlone() {
        CountedMaker x = new CountedMaker();
        CHECK.due("start(1000, 100)", x.start(1000, 100), 4000);
        for (int left = 3999; x.callsLeft() > 0; left--) {
            CHECK.due("step()", x.step(), left);
        }
        State key = State.started(Rows.EMPTY, Rows.EMPTY, 100, 100);
        CountedMaker y = new CountedMaker();
        y.start(100, 100);
        for (int left = 399; left >= 0; left--) {
            CHECK.due("step()", y.step(), left);
        }
        for (int i = 0; y.callsLeft() > 0; i++) {
            CHECK.due("key(" + i + ")", y.key(i), key.after(400).key(i));
        }
    }

    private static void foursAlone() {
        CountedMaker x = new CountedMaker();
        for (int n = 1; x.callsLeft() > 1; n++) {
            CHECK.due("four " + n, x.four(-n), n <= 37);
        }
        CHECK.due("many(0) at call 512", x.many(0), 148);
    }

    private static void refusedCallsAlone() {
        CountedMaker x = new CountedMaker();
        while (x.callsLeft() > 140) {
            CHECK.due("password(256)", x.password(256), false);
            CHECK.due("salt(-1)", x.salt(-1), false);
            CHECK.due("start(0, 1)", x.start(0, 1), NONE);
            CHECK.due("step()", x.step(), NONE);
            CHECK.due("run(1)", x.run(1), NONE);
            CHECK.due("key(0)", x.key(0), NONE);
        }
        States.NEW.dueStill(CHECK, "behind refused calls alone", x);
    }

    private static void sumsAndMarksAlone() {
        byte[] sum = Reference.sumOf(States.FULL.password);
        byte[] mark = Reference.markOf(States.FULL.password, States.FULL.salt);
        CountedMaker x = States.FULL.make();
        for (int n = 0; x.callsLeft() > 1; n++) {
            int i = n % 32;
            CHECK.due("sum(" + i + ")", x.sum(i), sum[i] & 255);
            CHECK.due("mark(" + i + ")", x.mark(i), mark[i] & 255);
        }
    }

    /** The dearest run: as many of the longest keys as the calls allow. */
    private static void longestKeysAgainAndAgain() {
        State most = State.started(Rows.EMPTY, Rows.EMPTY, 1000, 100).after(4000);
        CountedMaker x = new CountedMaker();
        while (x.callsLeft() > 0) {
            CHECK.due("start(1000, 100)", x.start(1000, 100), 4000);
            CHECK.due("run(4000)", x.run(4000), 4000);
            CHECK.due("key(99)", x.key(99), most.key(99));
            x.reset();
        }
    }

    private static void startsAndResetsAlone() {
        CountedMaker x = new CountedMaker();
        while (x.callsLeft() > 0) {
            CHECK.due("start(1, 33)", x.start(1, 33), 2);
            x.reset();
        }
    }

    private static void dueLast(State state, Call call, int want) {
        CountedMaker x = state.make();
        waste(x, 1);
        CHECK.due(state + ": " + call.name() + " at call 512", call.on(x), want);
    }

    /** Calls that change nothing, until so many are left. */
    private static void waste(CountedMaker x, int callsLeft) {
        for (int n = 0; x.callsLeft() > callsLeft; n++) {
            switch (n % 6) {
                case 0 -> x.left();
                case 1 -> x.many(n % 5 - 1);
                case 2 -> x.key(n);
                case 3 -> x.sum(n % 40);
                case 4 -> x.mark(n % 40);
                default -> x.run(-1);
            }
        }
    }
}
