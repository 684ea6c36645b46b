/** A KeyMaker that counts its calls: nothing is promised behind the 512th, so no test may ask there. */
final class CountedMaker {
    static final int MOST_CALLS = 512;

    private final KeyMaker maker = new KeyMaker();
    private int calls = 0;

    int callsLeft() {
        return MOST_CALLS - calls;
    }

    boolean password(int b) {
        return counted().password(b);
    }

    boolean four(int bytes) {
        return counted().four(bytes);
    }

    boolean salt(int b) {
        return counted().salt(b);
    }

    int start(int turns, int bytes) {
        return counted().start(turns, bytes);
    }

    int step() {
        return counted().step();
    }

    int run(int most) {
        return counted().run(most);
    }

    int left() {
        return counted().left();
    }

    int key(int i) {
        return counted().key(i);
    }

    void reset() {
        counted().reset();
    }

    int many(int what) {
        return counted().many(what);
    }

    int sum(int i) {
        return counted().sum(i);
    }

    int mark(int i) {
        return counted().mark(i);
    }

    int word(int which, int i) {
        return counted().word(which, i);
    }

    private KeyMaker counted() {
        if (calls == MOST_CALLS) {
            throw new IllegalStateException("a test asks more than " + MOST_CALLS + " calls of one object");
        }
        calls++;
        return maker;
    }
}
