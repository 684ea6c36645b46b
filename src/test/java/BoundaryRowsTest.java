import java.util.Arrays;
import java.util.List;

/** The boundary cases of promises 1 to 4 and 10: a new object, password, four, salt, reset. */
public final class BoundaryRowsTest {
    private static final int MIN = Integer.MIN_VALUE;
    private static final int MAX = Integer.MAX_VALUE;
    private static final Check CHECK = new Check();

    private BoundaryRowsTest() {
    }

    public static void main(String[] args) {
        newObject();
        passwordTakesBytesAlone();
        passwordHas150AtMost();
        passwordNotWhenStarted();
        fourTakesAnyInt();
        fourHas150AtMost();
        fourRefusedTakesNoPart();
        fourNotWhenStarted();
        saltTakesBytesAlone();
        saltHas80AtMost();
        saltNotWhenStarted();
        resetFromEveryState();
        resetMakesRoomAgain();
        CHECK.end();
    }

    private static void newObject() {
        CHECK.about("promise 1: \"No password, no salt, not started.\"");
        // Each is the first call of its object.
        dueFirst(Call.many(0), 0);
        dueFirst(Call.many(1), 0);
        dueFirst(Call.many(2), 0);
        dueFirst(Call.left(), KeyMaker.NONE);
        dueFirst(Call.step(), KeyMaker.NONE);
        dueFirst(Call.run(0), KeyMaker.NONE);
        dueFirst(Call.run(MAX), KeyMaker.NONE);
        dueFirst(Call.key(0), KeyMaker.NONE);
        dueFirst(Call.sum(0), 0xe3);
        dueFirst(Call.sum(31), 0x55);
        dueFirst(Call.mark(0), Reference.markOf(Rows.EMPTY, Rows.EMPTY)[0] & 255);
        dueFirst(Call.mark(31), Reference.markOf(Rows.EMPTY, Rows.EMPTY)[31] & 255);
        // Nothing of one object is in another.
        CountedMaker other = States.FULL.make();
        CountedMaker x = new CountedMaker();
        other.start(2, 100);
        States.NEW.dueStill(CHECK, "beside another", x);
    }

    private static void passwordTakesBytesAlone() {
        CHECK.about("promise 2: \"false when it is not 0 .. 255\"");
        for (int b : new int[] {0, 1, 127, 128, 254, 255}) {
            State longer = State.open(Rows.joined(States.SOME.password, (byte) b), States.SOME.salt);
            CountedMaker x = States.SOME.make();
            CHECK.due("password(" + b + ")", x.password(b), true);
            longer.dueStill(CHECK, "behind password(" + b + ")", x);
        }
        for (int b : noBytes()) {
            States.SOME.dueChangesNothing(CHECK, Call.password(b), 0);
        }
    }

    private static void passwordHas150AtMost() {
        CHECK.about("promise 2: \"false when .. there are 150\"");
        for (int b : new int[] {0, 77, 255}) {
            State last = State.open(Rows.joined(Rows.row(149, 1), (byte) b), Rows.row(5, 2));
            CountedMaker x = State.open(Rows.row(149, 1), Rows.row(5, 2)).make();
            CHECK.due("the 150th, " + b, x.password(b), true);
            last.dueStill(CHECK, "behind the 150th, " + b, x);
            last.dueChangesNothing(CHECK, Call.password(b), 0);
        }
        for (int b : noBytes()) {
            States.FULL.dueChangesNothing(CHECK, Call.password(b), 0);
        }
    }

    private static void passwordNotWhenStarted() {
        CHECK.about("promise 2: \"false when .. a key was started\"");
        for (State state : States.started()) {
            state.dueChangesNothing(CHECK, Call.password(0), 0);
            state.dueChangesNothing(CHECK, Call.password(255), 0);
            state.dueChangesNothing(CHECK, Call.password(256), 0);
        }
        byte[] longer = Rows.joined(States.SOME.password, (byte) 77);
        dueTakenBehindRefusedStart(Call.password(77), State.open(longer, States.SOME.salt));
    }

    private static void fourTakesAnyInt() {
        CHECK.about("promise 3: \"Four more bytes of the password, the highest first.\"");
        for (int four : new int[] {0, 1, -1, 255, 256, 0x01020304, 0x80000001, 0xff00ff00, MIN, MAX}) {
            CountedMaker x = States.SOME.make();
            CHECK.due("four(" + four + ")", x.four(four), true);
            State longer = State.open(withFour(States.SOME.password, four), States.SOME.salt);
            longer.dueStill(CHECK, "behind four(" + four + ")", x);
        }
    }

    private static void fourHas150AtMost() {
        CHECK.about("promise 3: \"false when there would be more than 150\"");
        for (int count = 142; count <= 150; count++) {
            State before = State.open(Rows.row(count, 3), Rows.row(5, 4));
            for (int four : new int[] {0, -1, 0x01020304, MIN, MAX}) {
                if (count <= 146) {
                    CountedMaker x = before.make();
                    CHECK.due("four behind " + count, x.four(four), true);
                    State.open(withFour(before.password, four), before.salt).dueStill(CHECK, "four behind " + count, x);
                } else {
                    before.dueChangesNothing(CHECK, Call.four(four), 0);
                }
            }
        }
    }

    private static void fourRefusedTakesNoPart() {
        CHECK.about("promise 3: a four that is refused takes none of its bytes");
        for (int count = 147; count <= 150; count++) {
            byte[] row = Rows.row(150, 5);
            CountedMaker x = State.open(Arrays.copyOf(row, count), Rows.EMPTY).make();
            CHECK.due("four behind " + count, x.four(0x01020304), false);
            for (int n = count; n < 150; n++) {
                CHECK.due("the byte at " + n, x.password(row[n] & 255), true);
                CHECK.due("four again behind " + (n + 1), x.four(-1), false);
            }
            State.open(row, Rows.EMPTY).dueStill(CHECK, "filled behind a refused four at " + count, x);
        }
    }

    private static void fourNotWhenStarted() {
        CHECK.about("promise 3: \"false when .. a key was started\"");
        for (State state : States.started()) {
            for (int four : new int[] {0, -1, MIN, MAX}) {
                state.dueChangesNothing(CHECK, Call.four(four), 0);
            }
        }
        dueTakenBehindRefusedStart(Call.four(MIN), State.open(withFour(States.SOME.password, MIN), States.SOME.salt));
    }

    private static void saltTakesBytesAlone() {
        CHECK.about("promise 4: \"false when it is not 0 .. 255\"");
        for (int b : new int[] {0, 1, 127, 128, 254, 255}) {
            State longer = State.open(States.SOME.password, Rows.joined(States.SOME.salt, (byte) b));
            CountedMaker x = States.SOME.make();
            CHECK.due("salt(" + b + ")", x.salt(b), true);
            longer.dueStill(CHECK, "behind salt(" + b + ")", x);
        }
        for (int b : noBytes()) {
            States.SOME.dueChangesNothing(CHECK, Call.salt(b), 0);
        }
    }

    private static void saltHas80AtMost() {
        CHECK.about("promise 4: \"false when .. there are 80\"");
        for (int b : new int[] {0, 77, 255}) {
            State last = State.open(Rows.row(5, 6), Rows.joined(Rows.row(79, 7), (byte) b));
            CountedMaker x = State.open(Rows.row(5, 6), Rows.row(79, 7)).make();
            CHECK.due("the 80th, " + b, x.salt(b), true);
            last.dueStill(CHECK, "behind the 80th, " + b, x);
            last.dueChangesNothing(CHECK, Call.salt(b), 0);
        }
        for (int b : noBytes()) {
            States.FULL.dueChangesNothing(CHECK, Call.salt(b), 0);
        }
    }

    private static void saltNotWhenStarted() {
        CHECK.about("promise 4: \"false when .. a key was started\"");
        for (State state : States.started()) {
            state.dueChangesNothing(CHECK, Call.salt(0), 0);
            state.dueChangesNothing(CHECK, Call.salt(255), 0);
            state.dueChangesNothing(CHECK, Call.salt(256), 0);
        }
        byte[] longer = Rows.joined(States.SOME.salt, (byte) 77);
        dueTakenBehindRefusedStart(Call.salt(77), State.open(States.SOME.password, longer));
    }

    private static void resetFromEveryState() {
        CHECK.about("promise 10: \"No password, no salt, not started.\"");
        for (State state : States.all()) {
            CountedMaker x = state.make();
            x.reset();
            States.NEW.dueStill(CHECK, state + ", reset", x);
            CountedMaker twice = state.make();
            twice.reset();
            twice.reset();
            States.NEW.dueStill(CHECK, state + ", reset twice", twice);
        }
    }

    private static void resetMakesRoomAgain() {
        CHECK.about("promise 10: behind a reset all is taken again");
        List<State> next = List.of(States.SOME, State.started(Rows.row(66, 8), Rows.row(7, 9), 2, 33).after(3));
        for (State state : States.all()) {
            for (State then : next) {
                CountedMaker x = state.make();
                x.reset();
                then.bring(x);
                then.dueStill(CHECK, state + ", reset, then " + then, x);
            }
        }
        // Full, reset and full again: 39 calls for 150 bytes, 80 for the salt.
        CountedMaker x = new CountedMaker();
        for (int n = 0; n < 2; n++) {
            x.reset();
            for (int k = 0; k < 37; k++) {
                CHECK.due("four " + k, x.four(k + n), true);
            }
            CHECK.due("the 149th", x.password(n), true);
            CHECK.due("the 150th", x.password(n), true);
            CHECK.due("the 151st", x.password(n), false);
            for (int k = 0; k < 80; k++) {
                CHECK.due("salt " + k, x.salt(k + n), true);
            }
            CHECK.due("the 81st", x.salt(n), false);
        }
        CHECK.due("many(0)", x.many(0), 150);
        CHECK.due("many(1)", x.many(1), 80);
    }

    /** A start that was refused started no key: what is not taken behind a start is taken behind it. */
    private static void dueTakenBehindRefusedStart(Call call, State then) {
        for (Call start : List.of(Call.start(0, 1), Call.start(1001, 1), Call.start(1, 0), Call.start(1, 101))) {
            CountedMaker x = States.SOME.make();
            CHECK.due(start.name(), start.on(x), KeyMaker.NONE);
            CHECK.due(call.name() + " behind " + start.name(), call.on(x), 1);
            then.dueStill(CHECK, call.name() + " behind " + start.name(), x);
        }
    }

    private static void dueFirst(Call call, int want) {
        CHECK.due(call.name(), call.on(new CountedMaker()), want);
    }

    /** Ints that are no bytes, among them each that has one bit above a byte's. */
    private static int[] noBytes() {
        int[] edges = {-1, -2, -128, -255, -256, 256, 257, 511, MIN, MIN + 1, MAX - 1, MAX};
        int[] all = Arrays.copyOf(edges, edges.length + 24);
        for (int bit = 8; bit < 32; bit++) {
            all[edges.length + bit - 8] = 1 << bit | 65;
        }
        return all;
    }

    private static byte[] withFour(byte[] row, int four) {
        return Rows.joined(row, (byte) (four >>> 24), (byte) (four >>> 16), (byte) (four >>> 8), (byte) four);
    }
}
