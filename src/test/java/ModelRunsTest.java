import java.util.Arrays;
import java.util.Random;

/** Long mixed runs of calls, each answer beside that of a plain model. The seeds are fixed. */
public final class ModelRunsTest {
    private static final int RUNS = 400;

    private final Check check = new Check();

    private ModelRunsTest() {
    }

    public static void main(String[] args) {
        ModelRunsTest test = new ModelRunsTest();
        for (int seed = 0; seed < RUNS; seed++) {
            test.oneRun(new Random(seed));
        }
        test.check.end();
    }

    private void oneRun(Random random) {
        CountedMaker x = new CountedMaker();
        Model model = new Model();
        int wildness = random.nextInt(4);
        for (int n = 0; n < CountedMaker.MOST_CALLS; n++) {
            oneCall(random, wildness, x, model);
        }
    }

    private void oneCall(Random random, int wildness, CountedMaker x, Model model) {
        int kind = random.nextInt(64);
        if (kind < 16) {
            int b = value(random, wildness, 256);
            check.due("password(" + b + ")", x.password(b), model.password(b));
        } else if (kind < 22) {
            int four = random.nextInt();
            check.due("four(" + four + ")", x.four(four), model.four(four));
        } else if (kind < 36) {
            int b = value(random, wildness, 256);
            check.due("salt(" + b + ")", x.salt(b), model.salt(b));
        } else if (kind < 38) {
            int turns = value(random, wildness, 9);
            int bytes = value(random, wildness, 101);
            if (random.nextInt(8) == 0) {
                check.due("start(" + turns + ", " + bytes + ")", x.start(turns, bytes), model.start(turns, bytes));
            }
        } else if (kind < 41) {
            check.due("step()", x.step(), model.step());
        } else if (kind < 44) {
            int most = value(random, wildness, 12);
            check.due("run(" + most + ")", x.run(most), model.run(most));
        } else if (kind < 46) {
            check.due("left()", x.left(), model.left());
        } else if (kind < 54) {
            int i = value(random, wildness, 105);
            check.due("key(" + i + ")", x.key(i), model.key(i));
        } else if (kind < 56) {
            int what = value(random, wildness, 3);
            check.due("many(" + what + ")", x.many(what), model.many(what));
        } else if (kind < 59) {
            int i = value(random, wildness, 32);
            check.due("sum(" + i + ")", x.sum(i), model.sum(i));
        } else if (kind < 63) {
            int i = value(random, wildness, 32);
            check.due("mark(" + i + ")", x.mark(i), model.mark(i));
        } else if (random.nextInt(4) == 0) {
            x.reset();
            model.reset();
        } else {
            int which = value(random, wildness, 2);
            int i = value(random, wildness, 64);
            check.due("word(" + which + ", " + i + ")", x.word(which, i), model.word(which, i));
        }
    }

    private static int value(Random random, int wildness, int below) {
        if (random.nextInt(16) >= wildness) {
            return random.nextInt(below);
        }
        return random.nextBoolean() ? random.nextInt(3 * below) - below : random.nextInt();
    }

    private static final class Model {
        private static final int[] PRIMES = Reference.primes(64);

        private byte[] password = new byte[0];
        private byte[] salt = new byte[0];
        private byte[] key = new byte[0];
        private int turns = 0;
        private int done = 0;

        boolean password(int b) {
            if (b < 0 || b > 255 || password.length == 150 || key.length > 0) {
                return false;
            }
            password = with(password, b);
            return true;
        }

        boolean four(int bytes) {
            if (password.length > 146 || key.length > 0) {
                return false;
            }
            password = with(with(with(with(password, bytes >> 24), bytes >> 16), bytes >> 8), bytes);
            return true;
        }

        boolean salt(int b) {
            if (b < 0 || b > 255 || salt.length == 80 || key.length > 0) {
                return false;
            }
            salt = with(salt, b);
            return true;
        }

        int start(int ofTurns, int bytes) {
            if (ofTurns < 1 || ofTurns > 1000 || bytes < 1 || bytes > 100 || key.length > 0) {
                return -1;
            }
            key = Reference.keyOf(password, salt, ofTurns, bytes);
            turns = ofTurns;
            done = 0;
            return all();
        }

        int step() {
            if (key.length == 0 || done == all()) {
                return -1;
            }
            done++;
            return all() - done;
        }

        int run(int most) {
            if (key.length == 0 || most < 0) {
                return -1;
            }
            int now = Math.min(most, all() - done);
            done += now;
            return now;
        }

        int left() {
            return key.length == 0 ? -1 : all() - done;
        }

        int key(int i) {
            return i >= 0 && i < key.length && done >= (i / 32 + 1) * turns ? key[i] & 255 : -1;
        }

        void reset() {
            password = new byte[0];
            salt = new byte[0];
            key = new byte[0];
        }

        int many(int what) {
            return what == 0 ? password.length : what == 1 ? salt.length : what == 2 ? key.length : -1;
        }

        int sum(int i) {
            return i >= 0 && i < 32 ? Reference.sumOf(password)[i] & 255 : -1;
        }

        int mark(int i) {
            return i >= 0 && i < 32 ? Reference.markOf(password, salt)[i] & 255 : -1;
        }

        int word(int which, int i) {
            if (i < 0 || i >= 64 || which != 0 && (which != 1 || i >= 8)) {
                return 0;
            }
            return Reference.rootBits(PRIMES[i], which == 0 ? 3 : 2);
        }

        private int all() {
            return (key.length + 31) / 32 * turns;
        }

        private static byte[] with(byte[] row, int b) {
            byte[] more = Arrays.copyOf(row, row.length + 1);
            more[row.length] = (byte) b;
            return more;
        }
    }
}
