/** A state of an object: the calls that lead to it, and what shows that an object is still in it. */
final class State {
    private static final int[] KEY_EDGES = {-1, 0, 31, 32, 63, 64, 95, 96, 99, 100, 127, 128};

    final byte[] password;
    final byte[] salt;
    final int turns;
    final int bytes;
    final int done;
    private final byte[] key;

    private State(byte[] password, byte[] salt, int turns, byte[] key, int done) {
        this.password = password;
        this.salt = salt;
        this.turns = turns;
        this.key = key;
        this.bytes = key.length;
        this.done = done;
    }

    static State open(byte[] password, byte[] salt) {
        return new State(password, salt, 0, Rows.EMPTY, 0);
    }

    static State started(byte[] password, byte[] salt, int turns, int bytes) {
        return new State(password, salt, turns, Reference.keyOf(password, salt, turns, bytes), 0);
    }

    boolean isStarted() {
        return bytes > 0;
    }

    int all() {
        return (bytes + 31) / 32 * turns;
    }

    int left() {
        return isStarted() ? all() - done : KeyMaker.NONE;
    }

    /** What key(i) must answer. */
    int key(int i) {
        return i >= 0 && i < bytes && done >= (i / 32 + 1) * turns ? key[i] & 255 : KeyMaker.NONE;
    }

    /** The same state with so many turns done. */
    State after(int nowDone) {
        return new State(password, salt, turns, key, nowDone);
    }

    CountedMaker make() {
        CountedMaker x = new CountedMaker();
        bring(x);
        return x;
    }

    /** Brings an object that is as new into this state. */
    void bring(CountedMaker x) {
        for (byte b : password) {
            x.password(b & 255);
        }
        for (byte b : salt) {
            x.salt(b & 255);
        }
        if (isStarted()) {
            x.start(turns, bytes);
            x.run(done);
        }
    }

    /** In this state the call answers so, and changes nothing. */
    void dueChangesNothing(Check check, Call call, int want) {
        CountedMaker x = make();
        check.due(this + ": " + call.name(), call.on(x), want);
        dueStill(check, this + ", behind " + call.name(), x);
    }

    @Override
    public String toString() {
        String rows = "password " + password.length + ", salt " + salt.length;
        return isStarted() ? rows + ", key " + turns + " x " + bytes + ", turns done " + done : rows;
    }

    /** The object answers as one in this state, and goes on as one: this ends what it was made for. */
    void dueStill(Check check, String when, CountedMaker x) {
        dueAsked(check, when, x);
        if (isStarted()) {
            dueTurnsToEnd(check, when, x);
        } else {
            dueStarts(check, when, x);
        }
    }

    /** The object answers what it is asked as one in this state; nothing is changed. */
    void dueAsked(Check check, String when, CountedMaker x) {
        check.due(when + ": many(0)", x.many(0), password.length);
        check.due(when + ": many(1)", x.many(1), salt.length);
        check.due(when + ": many(2)", x.many(2), bytes);
        check.due(when + ": left()", x.left(), left());
        byte[] sum = Reference.sumOf(password);
        byte[] mark = Reference.markOf(password, salt);
        for (int i = 0; i < 32; i += 5) {
            check.due(when + ": sum(" + i + ")", x.sum(i), sum[i] & 255);
            check.due(when + ": mark(" + i + ")", x.mark(i), mark[i] & 255);
        }
        for (int i : KEY_EDGES) {
            check.due(when + ": key(" + i + ")", x.key(i), key(i));
        }
        check.due(when + ": key(bytes - 1)", x.key(bytes - 1), key(bytes - 1));
        check.due(when + ": key(bytes)", x.key(bytes), KeyMaker.NONE);
    }

    private void dueTurnsToEnd(Check check, String when, CountedMaker x) {
        check.due(when + ": run(left)", x.run(left()), left());
        dueKey(check, when, x, key);
        check.due(when + ": step() at the end", x.step(), KeyMaker.NONE);
    }

    private void dueStarts(Check check, String when, CountedMaker x) {
        byte[] longer = password.length < 150 ? Rows.joined(password, (byte) 77) : password;
        byte[] salted = salt.length < 80 ? Rows.joined(salt, (byte) 99) : salt;
        check.due(when + ": one byte more", x.password(77), password.length < 150);
        check.due(when + ": one byte of salt more", x.salt(99), salt.length < 80);
        check.due(when + ": start(2, 40)", x.start(2, 40), 4);
        check.due(when + ": run(4)", x.run(4), 4);
        dueKey(check, when, x, Reference.keyOf(longer, salted, 2, 40));
    }

    private static void dueKey(Check check, String when, CountedMaker x, byte[] key) {
        check.due(when + ": left() at the end", x.left(), 0);
        for (int i = 0; i < key.length; i++) {
            check.due(when + ": key(" + i + ") at the end", x.key(i), key[i] & 255);
        }
        check.due(when + ": key(" + key.length + ") at the end", x.key(key.length), KeyMaker.NONE);
    }
}
