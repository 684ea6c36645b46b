/** One method for each promise of the document: ordinary inputs, the edges it names, wrong inputs. */
public final class PromisesTest {
    private static final int[] NO_BYTES = {-1, 256, 257, -256, 0x100, 0x7fffff00, Integer.MIN_VALUE, Integer.MAX_VALUE};
    private static final int[] NO_PLACES = {-1, 32, 33, 64, -32, Integer.MIN_VALUE, Integer.MAX_VALUE};
    private static final Check CHECK = new Check();

    private PromisesTest() {
    }

    public static void main(String[] args) {
        promise1NewObject();
        promise2Password();
        promise3Four();
        promise4Salt();
        promise5Start();
        promise6Step();
        promise7Run();
        promise8Left();
        promise9Key();
        promise10Reset();
        promise11Many();
        promise12Sum();
        promise13Mark();
        promise14Word();
        CHECK.end();
    }

    private static void promise1NewObject() {
        CHECK.due("NONE", KeyMaker.NONE, -1);
        dueNew("new", new CountedMaker());
        CountedMaker one = new CountedMaker();
        one.password(1);
        one.salt(1);
        one.start(1, 1);
        dueNew("new beside another", new CountedMaker());
    }

    private static void promise2Password() {
        CountedMaker x = new CountedMaker();
        for (int b : NO_BYTES) {
            CHECK.due("password(" + b + ")", x.password(b), false);
        }
        CHECK.due("many(0) after refusals", x.many(0), 0);
        CHECK.due("password(0)", x.password(0), true);
        CHECK.due("password(255)", x.password(255), true);
        CHECK.due("many(0)", x.many(0), 2);
        dueSum("bytes 0, 255", x, new byte[] {0, -1});
        byte[] row = Rows.row(150, 3);
        CountedMaker full = of(row, Rows.EMPTY);
        CHECK.due("many(0) of 150", full.many(0), 150);
        CHECK.due("the 151st", full.password(7), false);
        CHECK.due("many(0) after the 151st", full.many(0), 150);
        dueSum("150 bytes after the 151st", full, row);
        x.start(1, 1);
        CHECK.due("password started", x.password(1), false);
        x.step();
        CHECK.due("password when none is left", x.password(1), false);
        CHECK.due("many(0) started", x.many(0), 2);
        dueSum("started", x, new byte[] {0, -1});
    }

    private static void promise3Four() {
        CountedMaker x = new CountedMaker();
        CHECK.due("four", x.four(0x01fe7f80), true);
        CHECK.due("four", x.four(0xff000203), true);
        CHECK.due("four(0)", x.four(0), true);
        CHECK.due("four(-1)", x.four(-1), true);
        CHECK.due("many(0)", x.many(0), 16);
        byte[] row = {1, -2, 127, -128, -1, 0, 2, 3, 0, 0, 0, 0, -1, -1, -1, -1};
        dueSum("fours", x, row);
        for (int count = 145; count <= 150; count++) {
            byte[] old = Rows.row(count, 5);
            CountedMaker full = of(old, Rows.EMPTY);
            boolean fits = count <= 146;
            CHECK.due("four behind " + count, full.four(0x01020304), fits);
            CHECK.due("many(0) behind " + count, full.many(0), fits ? count + 4 : count);
            dueSum("four behind " + count, full, fits ? Rows.joined(old, new byte[] {1, 2, 3, 4}) : old);
        }
        x.start(1, 1);
        CHECK.due("four started", x.four(1), false);
        CHECK.due("many(0) started", x.many(0), 16);
        dueSum("fours started", x, row);
    }

    private static void promise4Salt() {
        CountedMaker x = new CountedMaker();
        for (int b : NO_BYTES) {
            CHECK.due("salt(" + b + ")", x.salt(b), false);
        }
        CHECK.due("many(1) after refusals", x.many(1), 0);
        CHECK.due("salt(0)", x.salt(0), true);
        CHECK.due("salt(255)", x.salt(255), true);
        CHECK.due("many(1)", x.many(1), 2);
        dueMark("bytes 0, 255", x, Rows.EMPTY, new byte[] {0, -1});
        byte[] row = Rows.row(80, 9);
        CountedMaker full = of(Rows.EMPTY, row);
        CHECK.due("many(1) of 80", full.many(1), 80);
        CHECK.due("the 81st", full.salt(7), false);
        CHECK.due("many(1) after the 81st", full.many(1), 80);
        dueMark("80 bytes after the 81st", full, Rows.EMPTY, row);
        x.start(1, 1);
        CHECK.due("salt started", x.salt(1), false);
        x.step();
        CHECK.due("salt when none is left", x.salt(1), false);
        CHECK.due("many(1) started", x.many(1), 2);
        dueMark("started", x, Rows.EMPTY, new byte[] {0, -1});
    }

    private static void promise5Start() {
        int[][] wrong = {{0, 1}, {-1, 1}, {1001, 1}, {1, 0}, {1, -1}, {1, 101}, {0, 0}, {1001, 101},
            {Integer.MIN_VALUE, 1}, {Integer.MAX_VALUE, 1}, {1, Integer.MIN_VALUE}, {1, Integer.MAX_VALUE}};
        CountedMaker x = new CountedMaker();
        for (int[] w : wrong) {
            CHECK.due("start(" + w[0] + ", " + w[1] + ")", x.start(w[0], w[1]), KeyMaker.NONE);
        }
        dueNew("after refused starts", x);
        int[][] right = {{1, 1, 1}, {1, 32, 1}, {1, 33, 2}, {1, 64, 2}, {1, 65, 3}, {1, 96, 3}, {1, 97, 4}, {1, 100, 4},
            {1000, 1, 1000}, {1000, 100, 4000}, {7, 40, 14}};
        for (int[] r : right) {
            CountedMaker y = new CountedMaker();
            CHECK.due("start(" + r[0] + ", " + r[1] + ")", y.start(r[0], r[1]), r[2]);
            CHECK.due("many(2)", y.many(2), r[1]);
            CHECK.due("start again", y.start(2, 2), KeyMaker.NONE);
            CHECK.due("many(2) after start again", y.many(2), r[1]);
            CHECK.due("left() after start again", y.left(), r[2]);
        }
        CountedMaker done = new CountedMaker();
        done.start(1, 1);
        done.step();
        CHECK.due("start when none is left", done.start(1, 1), KeyMaker.NONE);
    }

    private static void promise6Step() {
        byte[] password = Rows.row(20, 1);
        byte[] salt = Rows.row(8, 2);
        byte[] key = Reference.keyOf(password, salt, 3, 70);
        CountedMaker x = of(password, salt);
        CHECK.due("step() not started", x.step(), KeyMaker.NONE);
        x.start(3, 70);
        for (int left = 8; left >= 0; left--) {
            CHECK.due("step()", x.step(), left);
            dueKeyEdges("after a step, " + left + " left", x, key, (9 - left) / 3 * 32);
        }
        CHECK.due("step() when none is left", x.step(), KeyMaker.NONE);
        CHECK.due("left() after it", x.left(), 0);
        dueKey("after a refused step", x, key, 70);
    }

    private static void promise7Run() {
        byte[] password = Rows.row(70, 4);
        byte[] salt = Rows.row(80, 6);
        byte[] key = Reference.keyOf(password, salt, 10, 100);
        CountedMaker x = of(password, salt);
        CHECK.due("run(0) not started", x.run(0), KeyMaker.NONE);
        CHECK.due("run(1) not started", x.run(1), KeyMaker.NONE);
        x.start(10, 100);
        CHECK.due("run(-1)", x.run(-1), KeyMaker.NONE);
        CHECK.due("run(MIN)", x.run(Integer.MIN_VALUE), KeyMaker.NONE);
        CHECK.due("run(0)", x.run(0), 0);
        CHECK.due("left()", x.left(), 40);
        CHECK.due("run(9)", x.run(9), 9);
        dueKeyEdges("after 9", x, key, 0);
        CHECK.due("run(12)", x.run(12), 12);
        dueKeyEdges("after 21", x, key, 64);
        CHECK.due("step() between", x.step(), 18);
        CHECK.due("run(MAX)", x.run(Integer.MAX_VALUE), 18);
        dueKey("after all", x, key, 100);
        CHECK.due("run(5) when none is left", x.run(5), 0);
        CHECK.due("run(0) when none is left", x.run(0), 0);
        CHECK.due("run(-1) when none is left", x.run(-1), KeyMaker.NONE);
        CountedMaker exact = of(password, salt);
        exact.start(10, 100);
        CHECK.due("run(40)", exact.run(40), 40);
        dueKey("after exactly all", exact, key, 100);
        CountedMaker most = of(Rows.row(150, 8), salt);
        most.start(1000, 100);
        CHECK.due("run(5000)", most.run(5000), 4000);
        dueKey("the longest key", most, Reference.keyOf(Rows.row(150, 8), salt, 1000, 100), 100);
    }

    private static void promise8Left() {
        CountedMaker x = new CountedMaker();
        CHECK.due("left() not started", x.left(), KeyMaker.NONE);
        x.start(1000, 100);
        CHECK.due("left() started", x.left(), 4000);
        x.step();
        CHECK.due("left() after a step", x.left(), 3999);
        CHECK.due("left() again", x.left(), 3999);
        x.run(999);
        CHECK.due("left() behind a part", x.left(), 3000);
        x.run(3000);
        CHECK.due("left() behind all", x.left(), 0);
        x.reset();
        CHECK.due("left() after reset", x.left(), KeyMaker.NONE);
    }

    private static void promise9Key() {
        dueKnownKeys();
        int[] lengths = {0, 1, 32, 55, 56, 63, 64, 65, 119, 120, 150};
        int[] salts = {0, 1, 51, 52, 59, 60, 80};
        int[] bytes = {1, 31, 32, 33, 64, 65, 96, 97, 100};
        for (int length : lengths) {
            for (int s = 0; s < salts.length; s++) {
                byte[] password = Rows.row(length, length + 1);
                byte[] salt = Rows.row(salts[s], s + 40);
                int wanted = bytes[(length + s) % bytes.length];
                CountedMaker x = of(password, salt);
                x.start(3, wanted);
                x.run(5);
                x.mark(0);
                x.sum(0);
                byte[] key = Reference.keyOf(password, salt, 3, wanted);
                dueKeyEdges("after 5 turns", x, key, 32);
                x.run(100);
                dueKey("password " + length + ", salt " + salts[s], x, key, wanted);
            }
        }
    }

    /** Keys told by others than the Java library (the published ones of "password" and "salt"). */
    private static void dueKnownKeys() {
        int[] turns = {1, 2};
        String[] keys = {"120fb6cffcf8b32c43e7225256c4f837a86548c92ccc35480805987cb70be17b",
            "ae4d0c95af6b46d32d0adff928f06dd02a303f8ef3c251dfd6e2d85a95474c43"};
        for (int n = 0; n < keys.length; n++) {
            CountedMaker x = of(Rows.text("password"), Rows.text("salt"));
            x.start(turns[n], 32);
            x.run(turns[n]);
            for (int i = 0; i < 32; i++) {
                CHECK.due("known key(" + i + ")", x.key(i), Integer.parseInt(keys[n].substring(2 * i, 2 * i + 2), 16));
            }
        }
    }

    private static void promise10Reset() {
        CountedMaker x = new CountedMaker();
        x.reset();
        dueNew("new and reset", x);
        byte[] password = Rows.row(100, 11);
        byte[] salt = Rows.row(60, 12);
        put(x, password, salt);
        x.reset();
        dueNew("reset not started", x);
        int[] turnsDone = {0, 2, 6, 20};
        for (int done : turnsDone) {
            x = of(password, salt);
            CHECK.due("start", x.start(5, 100), 20);
            x.run(done);
            x.reset();
            dueNew("reset after " + done, x);
            byte[] other = Rows.row(30, done);
            put(x, other, Rows.row(3, done));
            CHECK.due("start after reset", x.start(2, 50), 4);
            x.run(4);
            dueKey("another key after reset", x, Reference.keyOf(other, Rows.row(3, done), 2, 50), 50);
        }
    }

    private static void promise11Many() {
        CountedMaker x = of(Rows.row(5, 1), Rows.row(3, 1));
        int[] wrong = {-1, 3, 4, Integer.MIN_VALUE, Integer.MAX_VALUE};
        for (int what : wrong) {
            CHECK.due("many(" + what + ")", x.many(what), KeyMaker.NONE);
        }
        dueMany("not started", x, 5, 3, 0);
        x.start(4, 90);
        dueMany("started", x, 5, 3, 90);
        x.run(100);
        dueMany("none left", x, 5, 3, 90);
        for (int what : wrong) {
            CHECK.due("many(" + what + ")", x.many(what), KeyMaker.NONE);
        }
        x.reset();
        dueMany("reset", x, 0, 0, 0);
    }

    private static void promise12Sum() {
        for (int length = 0; length <= 150; length++) {
            byte[] password = Rows.row(length, length);
            CountedMaker x = of(password, Rows.row(length % 5, 1));
            dueSum("length " + length, x, password);
        }
        CountedMaker x = of(Rows.row(9, 1), Rows.row(4, 2));
        dueNoPlaces(x);
        x.start(2, 40);
        x.step();
        dueSum("a key started", x, Rows.row(9, 1));
        dueNoPlaces(x);
        x.run(9);
        dueKey("asked for sums between", x, Reference.keyOf(Rows.row(9, 1), Rows.row(4, 2), 2, 40), 40);
    }

    private static void promise13Mark() {
        for (int length = 0; length <= 150; length += length > 60 && length < 66 ? 1 : 5) {
            for (int count = 0; count <= 80; count++) {
                CountedMaker x = of(Rows.row(length, 3), Rows.row(count, 4));
                int i = (length + count) % 32;
                byte[] mark = Reference.markOf(Rows.row(length, 3), Rows.row(count, 4));
                CHECK.due("mark(" + i + ")", x.mark(i), mark[i] & 255);
            }
            dueMark("length " + length, of(Rows.row(length, 6), Rows.row(80, 7)), Rows.row(length, 6), Rows.row(80, 7));
        }
        byte[] salt = Rows.row(4, 2);
        CountedMaker x = of(Rows.row(65, 1), salt);
        x.mark(0);
        x.password(5);
        byte[] longer = Rows.joined(Rows.row(65, 1), (byte) 5);
        dueMark("a byte more", x, longer, salt);
        x.start(3, 40);
        x.run(2);
        dueMark("a key started", x, longer, salt);
        dueNoPlaces(x);
        x.run(9);
        dueKey("asked for marks between", x, Reference.keyOf(longer, salt, 3, 40), 40);
        dueMark("none left", x, longer, salt);
    }

    private static void promise14Word() {
        CountedMaker x = new CountedMaker();
        int[] primes = Reference.primes(64);
        for (int i = 0; i < 64; i++) {
            CHECK.due("word(0, " + i + ")", x.word(0, i), Reference.rootBits(primes[i], 3));
        }
        for (int i = 0; i < 8; i++) {
            CHECK.due("word(1, " + i + ")", x.word(1, i), Reference.rootBits(primes[i], 2));
        }
        int[][] none = {{0, -1}, {0, 64}, {1, -1}, {1, 8}, {1, 63}, {2, 0}, {-1, 0},
            {0, Integer.MIN_VALUE}, {0, Integer.MAX_VALUE}, {1, Integer.MIN_VALUE}, {1, Integer.MAX_VALUE},
            {Integer.MIN_VALUE, 1}, {Integer.MAX_VALUE, 1}};
        for (int[] n : none) {
            CHECK.due("word(" + n[0] + ", " + n[1] + ")", x.word(n[0], n[1]), 0);
        }
        dueNew("after words", x);
    }

    private static void dueNew(String when, CountedMaker x) {
        dueMany(when, x, 0, 0, 0);
        CHECK.due(when + ": left()", x.left(), KeyMaker.NONE);
        CHECK.due(when + ": step()", x.step(), KeyMaker.NONE);
        CHECK.due(when + ": run(1)", x.run(1), KeyMaker.NONE);
        CHECK.due(when + ": key(0)", x.key(0), KeyMaker.NONE);
        dueSum(when, x, Rows.EMPTY);
        dueMark(when, x, Rows.EMPTY, Rows.EMPTY);
    }

    private static void dueMany(String when, CountedMaker x, int password, int salt, int key) {
        CHECK.due(when + ": many(0)", x.many(0), password);
        CHECK.due(when + ": many(1)", x.many(1), salt);
        CHECK.due(when + ": many(2)", x.many(2), key);
    }

    private static void dueSum(String when, CountedMaker x, byte[] row) {
        byte[] sum = Reference.sumOf(row);
        for (int i = 0; i < 32; i++) {
            CHECK.due(when + ": sum(" + i + ")", x.sum(i), sum[i] & 255);
        }
    }

    private static void dueMark(String when, CountedMaker x, byte[] password, byte[] salt) {
        byte[] mark = Reference.markOf(password, salt);
        for (int i = 0; i < 32; i++) {
            CHECK.due(when + ": mark(" + i + ")", x.mark(i), mark[i] & 255);
        }
    }

    private static void dueNoPlaces(CountedMaker x) {
        for (int i : NO_PLACES) {
            CHECK.due("sum(" + i + ")", x.sum(i), KeyMaker.NONE);
            CHECK.due("mark(" + i + ")", x.mark(i), KeyMaker.NONE);
        }
    }

    /** The first bytes of the key are there, those behind them and those that no key has are not. */
    private static void dueKey(String when, CountedMaker x, byte[] key, int there) {
        for (int i = -1; i <= 130; i++) {
            boolean has = i >= 0 && i < there && i < key.length;
            CHECK.due(when + ": key(" + i + ")", x.key(i), has ? key[i] & 255 : KeyMaker.NONE);
        }
        CHECK.due(when + ": key(MIN)", x.key(Integer.MIN_VALUE), KeyMaker.NONE);
        CHECK.due(when + ": key(MAX)", x.key(Integer.MAX_VALUE), KeyMaker.NONE);
    }

    /** As dueKey, at the edges of the parts alone: an object has 512 calls, not more. */
    private static void dueKeyEdges(String when, CountedMaker x, byte[] key, int there) {
        int[] edges = {-1, 0, 31, 32, 63, 64, key.length - 1, key.length};
        for (int i : edges) {
            boolean has = i >= 0 && i < there && i < key.length;
            CHECK.due(when + ": key(" + i + ")", x.key(i), has ? key[i] & 255 : KeyMaker.NONE);
        }
    }

    private static CountedMaker of(byte[] password, byte[] salt) {
        CountedMaker x = new CountedMaker();
        put(x, password, salt);
        return x;
    }

    private static void put(CountedMaker x, byte[] password, byte[] salt) {
        for (byte b : password) {
            CHECK.due("password", x.password(b & 255), true);
        }
        for (byte b : salt) {
            CHECK.due("salt", x.salt(b & 255), true);
        }
    }
}
