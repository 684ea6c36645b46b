import java.util.Arrays;

/**
 * Makes keys of passwords and salt, turn by turn, by a sum over bytes that is built up word by word.
 *
 * <p>Every row is made in a constructor and used again, so that no call makes objects. Bytes are held
 * as ints of 0 .. 255.
 */
public final class KeyMaker {
    public static final int NONE = -1;

    private static final int MOST_PASSWORD = 150;
    private static final int MOST_SALT = 80;
    private static final int MOST_TURNS = 1000;
    private static final int MOST_KEY = 100;
    private static final int MOST_PARTS = 4;
    private static final int SUM_BYTES = 32;
    private static final int SUM_WORDS = 8;
    private static final int BLOCK_BYTES = 64;
    private static final int ROUNDS = 64;
    private static final int WORD_BYTES = 4;
    private static final int INNER = 54;
    private static final int OUTER = 92;

    private static final int[] K = {
        0x428a2f98, 0x71374491, 0xb5c0fbcf, 0xe9b5dba5, 0x3956c25b, 0x59f111f1, 0x923f82a4, 0xab1c5ed5,
        0xd807aa98, 0x12835b01, 0x243185be, 0x550c7dc3, 0x72be5d74, 0x80deb1fe, 0x9bdc06a7, 0xc19bf174,
        0xe49b69c1, 0xefbe4786, 0x0fc19dc6, 0x240ca1cc, 0x2de92c6f, 0x4a7484aa, 0x5cb0a9dc, 0x76f988da,
        0x983e5152, 0xa831c66d, 0xb00327c8, 0xbf597fc7, 0xc6e00bf3, 0xd5a79147, 0x06ca6351, 0x14292967,
        0x27b70a85, 0x2e1b2138, 0x4d2c6dfc, 0x53380d13, 0x650a7354, 0x766a0abb, 0x81c2c92e, 0x92722c85,
        0xa2bfe8a1, 0xa81a664b, 0xc24b8b70, 0xc76c51a3, 0xd192e819, 0xd6990624, 0xf40e3585, 0x106aa070,
        0x19a4c116, 0x1e376c08, 0x2748774c, 0x34b0bcb5, 0x391c0cb3, 0x4ed8aa4a, 0x5b9cca4f, 0x682e6ff3,
        0x748f82ee, 0x78a5636f, 0x84c87814, 0x8cc70208, 0x90befffa, 0xa4506ceb, 0xbef9a3f7, 0xc67178f2
    };

    private static final int[] H = {
        0x6a09e667, 0xbb67ae85, 0x3c6ef372, 0xa54ff53a, 0x510e527f, 0x9b05688c, 0x1f83d9ab, 0x5be0cd19
    };

    private final int[] passwordRow = new int[MOST_PASSWORD];
    // The four places more are for the number of a part, which stands behind the salt.
    private final int[] saltRow = new int[MOST_SALT + WORD_BYTES];
    private final int[] keyRow = new int[MOST_PARTS * SUM_BYTES];
    private final int[] lastMark = new int[SUM_BYTES];
    // Apart from lastMark, so that sum and mark may be asked between two turns.
    private final int[] answer = new int[SUM_BYTES];
    private final Summer summer = new Summer();
    private final Marker marker = new Marker();

    private int passwordCount;
    private int saltCount;
    // 0 as long as no key was started.
    private int keyCount;
    private int turnsOfEach;
    private int partsDone;
    private int turnsOfThis;

    public KeyMaker() {
        forgetAll();
    }

    public boolean password(int b) {
        if (!isByte(b) || isStarted() || passwordCount >= MOST_PASSWORD) {
            return false;
        }
        passwordRow[passwordCount] = b;
        passwordCount++;
        return true;
    }

    public boolean four(int bytes) {
        if (isStarted() || passwordCount + WORD_BYTES > MOST_PASSWORD) {
            return false;
        }
        putWord(bytes, passwordRow, passwordCount);
        passwordCount += WORD_BYTES;
        return true;
    }

    public boolean salt(int b) {
        if (!isByte(b) || isStarted() || saltCount >= MOST_SALT) {
            return false;
        }
        saltRow[saltCount] = b;
        saltCount++;
        return true;
    }

    public int start(int turns, int bytes) {
        if (isStarted() || turns < 1 || turns > MOST_TURNS || bytes < 1 || bytes > MOST_KEY) {
            return NONE;
        }
        keyCount = bytes;
        turnsOfEach = turns;
        Arrays.fill(keyRow, 0);
        marker.takeKey(passwordRow, passwordCount);
        return turnsLeft();
    }

    public int step() {
        if (turnsLeft() <= 0) {
            return NONE;
        }
        turn();
        return turnsLeft();
    }

    public int run(int most) {
        if (!isStarted() || most < 0) {
            return NONE;
        }
        int turns = Math.min(most, turnsLeft());
        for (int n = 0; n < turns; n++) {
            turn();
        }
        return turns;
    }

    public int left() {
        return isStarted() ? turnsLeft() : NONE;
    }

    public int key(int i) {
        if (i < 0 || i >= keyCount || i >= partsDone * SUM_BYTES) {
            return NONE;
        }
        return keyRow[i];
    }

    public void reset() {
        forgetAll();
    }

    public int many(int what) {
        switch (what) {
            case 0:
                return passwordCount;
            case 1:
                return saltCount;
            case 2:
                return keyCount;
            default:
                return NONE;
        }
    }

    public int sum(int i) {
        if (!isPlaceOfSum(i)) {
            return NONE;
        }
        summer.writeSum(passwordRow, passwordCount, answer);
        return answer[i];
    }

    public int mark(int i) {
        if (!isPlaceOfSum(i)) {
            return NONE;
        }
        // Under a started key this changes nothing in the marker: the password is still the same.
        marker.takeKey(passwordRow, passwordCount);
        marker.writeMark(saltRow, saltCount, answer);
        return answer[i];
    }

    public int word(int which, int i) {
        if (which == 0 && i >= 0 && i < K.length) {
            return K[i];
        }
        if (which == 1 && i >= 0 && i < H.length) {
            return H[i];
        }
        return 0;
    }

    private static boolean isByte(int b) {
        return b >= 0 && b <= 255;
    }

    private static boolean isPlaceOfSum(int i) {
        return i >= 0 && i < SUM_BYTES;
    }

    private static void putWord(int word, int[] row, int at) {
        row[at] = word >>> 24;
        row[at + 1] = word >>> 16 & 255;
        row[at + 2] = word >>> 8 & 255;
        row[at + 3] = word & 255;
    }

    private boolean isStarted() {
        return keyCount > 0;
    }

    private int turnsLeft() {
        int parts = (keyCount + SUM_BYTES - 1) / SUM_BYTES;
        return (parts - partsDone) * turnsOfEach - turnsOfThis;
    }

    private void forgetAll() {
        passwordCount = 0;
        saltCount = 0;
        keyCount = 0;
        turnsOfEach = 0;
        partsDone = 0;
        turnsOfThis = 0;
    }

    /** One turn; the caller has seen that one is left. */
    private void turn() {
        if (turnsOfThis == 0) {
            putWord(partsDone + 1, saltRow, saltCount);
            marker.writeMark(saltRow, saltCount + WORD_BYTES, lastMark);
        } else {
            marker.writeMark(lastMark, SUM_BYTES, lastMark);
        }
        foldLastMark();
        turnsOfThis++;
        if (turnsOfThis == turnsOfEach) {
            partsDone++;
            turnsOfThis = 0;
        }
    }

    private void foldLastMark() {
        int from = partsDone * SUM_BYTES;
        for (int n = 0; n < SUM_BYTES; n++) {
            keyRow[from + n] ^= lastMark[n];
        }
    }

    /** The sum of a row of bytes that are taken one by one. */
    private static final class Summer {
        private final int[] state = new int[SUM_WORDS];
        private final int[] words = new int[ROUNDS];
        private int taken;

        void writeSum(int[] row, int count, int[] into) {
            begin();
            takeRow(row, count);
            finish(into);
        }

        void begin() {
            System.arraycopy(H, 0, state, 0, SUM_WORDS);
            taken = 0;
        }

        /** Begins as if one block had been taken that left this state. */
        void beginBehindBlock(int[] kept) {
            System.arraycopy(kept, 0, state, 0, SUM_WORDS);
            taken = BLOCK_BYTES;
        }

        void keepState(int[] into) {
            System.arraycopy(state, 0, into, 0, SUM_WORDS);
        }

        void takeRow(int[] row, int count) {
            for (int n = 0; n < count; n++) {
                take(row[n]);
            }
        }

        void finish(int[] into) {
            long bits = 8L * taken;
            // 9: the byte 128 and the eight of the length.
            int zeros = (BLOCK_BYTES - 9 - taken) & (BLOCK_BYTES - 1);
            take(128);
            for (int n = 0; n < zeros; n++) {
                take(0);
            }
            for (int shift = 56; shift >= 0; shift -= 8) {
                take((int) (bits >>> shift) & 255);
            }
            for (int n = 0; n < SUM_WORDS; n++) {
                putWord(state[n], into, n * WORD_BYTES);
            }
        }

        private void take(int b) {
            int place = taken & (BLOCK_BYTES - 1);
            int at = place / WORD_BYTES;
            // Four bytes push out all that the word held before, so it needs no clearing.
            words[at] = words[at] << 8 | b;
            taken++;
            if (place == BLOCK_BYTES - 1) {
                spreadWords();
                mixWords();
            }
        }

        private void spreadWords() {
            for (int t = 16; t < ROUNDS; t++) {
                words[t] = smallOne(words[t - 2]) + words[t - 7] + smallZero(words[t - 15]) + words[t - 16];
            }
        }

        private void mixWords() {
            int a = state[0];
            int b = state[1];
            int c = state[2];
            int d = state[3];
            int e = state[4];
            int f = state[5];
            int g = state[6];
            int h = state[7];
            for (int t = 0; t < ROUNDS; t++) {
                int u = h + bigOne(e) + (e & f ^ ~e & g) + K[t] + words[t];
                int v = bigZero(a) + (a & b ^ a & c ^ b & c);
                h = g;
                g = f;
                f = e;
                e = d + u;
                d = c;
                c = b;
                b = a;
                a = u + v;
            }
            state[0] += a;
            state[1] += b;
            state[2] += c;
            state[3] += d;
            state[4] += e;
            state[5] += f;
            state[6] += g;
            state[7] += h;
        }

        private static int smallZero(int x) {
            return Integer.rotateRight(x, 7) ^ Integer.rotateRight(x, 18) ^ (x >>> 3);
        }

        private static int smallOne(int x) {
            return Integer.rotateRight(x, 17) ^ Integer.rotateRight(x, 19) ^ (x >>> 10);
        }

        private static int bigZero(int x) {
            return Integer.rotateRight(x, 2) ^ Integer.rotateRight(x, 13) ^ Integer.rotateRight(x, 22);
        }

        private static int bigOne(int x) {
            return Integer.rotateRight(x, 6) ^ Integer.rotateRight(x, 11) ^ Integer.rotateRight(x, 25);
        }
    }

    /** The mark of rows of bytes under one key. */
    private static final class Marker {
        // Its own, so that no object hands a part of itself to another.
        private final Summer summer = new Summer();
        private final int[] shortKey = new int[BLOCK_BYTES];
        private final int[] block = new int[BLOCK_BYTES];
        private final int[] innerSum = new int[SUM_BYTES];
        // The key's block comes first in both sums of every mark: its states are kept, so that a turn
        // need not mix it anew.
        private final int[] innerState = new int[SUM_WORDS];
        private final int[] outerState = new int[SUM_WORDS];

        void takeKey(int[] key, int count) {
            Arrays.fill(shortKey, 0);
            if (count > BLOCK_BYTES) {
                summer.writeSum(key, count, shortKey);
            } else {
                System.arraycopy(key, 0, shortKey, 0, count);
            }
            keepStateBehindKey(INNER, innerState);
            keepStateBehindKey(OUTER, outerState);
        }

        /** The row may be the one that is written into: it is read to its end before. */
        void writeMark(int[] row, int count, int[] into) {
            summer.beginBehindBlock(innerState);
            summer.takeRow(row, count);
            summer.finish(innerSum);
            summer.beginBehindBlock(outerState);
            summer.takeRow(innerSum, SUM_BYTES);
            summer.finish(into);
        }

        private void keepStateBehindKey(int with, int[] into) {
            for (int n = 0; n < BLOCK_BYTES; n++) {
                block[n] = shortKey[n] ^ with;
            }
            summer.begin();
            summer.takeRow(block, BLOCK_BYTES);
            summer.keepState(into);
        }
    }
}
