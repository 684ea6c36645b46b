import java.nio.charset.StandardCharsets;
import java.util.Arrays;

/** Rows of bytes for the tests. */
final class Rows {
    static final byte[] EMPTY = {};

    private Rows() {
    }

    static byte[] row(int count, int seed) {
        byte[] row = new byte[count];
        for (int n = 0; n < count; n++) {
            row[n] = (byte) (n * 37 + seed * 101 + n * n * seed);
        }
        return row;
    }

    static byte[] same(int count, int b) {
        byte[] row = new byte[count];
        Arrays.fill(row, (byte) b);
        return row;
    }

    static byte[] text(String text) {
        return text.getBytes(StandardCharsets.US_ASCII);
    }

    static byte[] joined(byte[] first, byte... then) {
        byte[] both = Arrays.copyOf(first, first.length + then.length);
        System.arraycopy(then, 0, both, first.length, then.length);
        return both;
    }
}
