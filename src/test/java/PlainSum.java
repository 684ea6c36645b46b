import java.util.Arrays;

/** The sum as the document's words tell it, over longs: counts how often an addition came to 2^32 or more. */
final class PlainSum {
    int wrapped = 0;
    int notWrapped = 0;

    byte[] of(byte[] row) {
        byte[] whole = whole(row);
        long[] s = new long[8];
        int[] primes = Reference.primes(64);
        long[] k = new long[64];
        for (int n = 0; n < 64; n++) {
            k[n] = Reference.rootBits(primes[n], 3) & 0xffffffffL;
            s[n % 8] = Reference.rootBits(primes[n % 8], 2) & 0xffffffffL;
        }
        for (int from = 0; from < whole.length; from += 64) {
            mix(s, k, words(whole, from));
        }
        byte[] sum = new byte[32];
        for (int n = 0; n < 32; n++) {
            sum[n] = (byte) (s[n / 4] >>> 24 - n % 4 * 8);
        }
        return sum;
    }

    /** The row, a byte 128, bytes 0 and the length in bits. */
    private static byte[] whole(byte[] row) {
        int zeros = 0;
        while ((row.length + 1 + zeros + 8) % 64 != 0) {
            zeros++;
        }
        byte[] whole = Arrays.copyOf(row, row.length + 1 + zeros + 8);
        whole[row.length] = (byte) 128;
        long bits = row.length * 8L;
        for (int n = 1; n <= 8; n++) {
            whole[whole.length - n] = (byte) bits;
            bits >>>= 8;
        }
        return whole;
    }

    private long[] words(byte[] whole, int from) {
        long[] w = new long[64];
        for (int n = 0; n < 64; n++) {
            w[n / 4] = w[n / 4] << 8 | whole[from + n] & 255;
        }
        for (int t = 16; t < 64; t++) {
            long s0 = turned(w[t - 15], 7) ^ turned(w[t - 15], 18) ^ w[t - 15] >>> 3;
            long s1 = turned(w[t - 2], 17) ^ turned(w[t - 2], 19) ^ w[t - 2] >>> 10;
            w[t] = added(added(added(s1, w[t - 7]), s0), w[t - 16]);
        }
        return w;
    }

    private void mix(long[] s, long[] k, long[] w) {
        long[] x = s.clone();
        for (int t = 0; t < 64; t++) {
            long ofE = turned(x[4], 6) ^ turned(x[4], 11) ^ turned(x[4], 25);
            long chosen = x[4] & x[5] ^ ~x[4] & x[6];
            long u = added(added(added(added(x[7], ofE), chosen), k[t]), w[t]);
            long ofA = turned(x[0], 2) ^ turned(x[0], 13) ^ turned(x[0], 22);
            long v = added(ofA, x[0] & x[1] ^ x[0] & x[2] ^ x[1] & x[2]);
            System.arraycopy(x, 0, x, 1, 7);
            x[4] = added(x[4], u);
            x[0] = added(u, v);
        }
        for (int n = 0; n < 8; n++) {
            s[n] = added(s[n], x[n]);
        }
    }

    private static long turned(long x, int n) {
        return (x >>> n | x << 32 - n) & 0xffffffffL;
    }

    private long added(long a, long b) {
        long both = a + b;
        if (both > 0xffffffffL) {
            wrapped++;
        } else {
            notWrapped++;
        }
        return both & 0xffffffffL;
    }
}
