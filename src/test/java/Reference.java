import java.math.BigInteger;
import java.security.GeneralSecurityException;
import java.security.MessageDigest;
import java.util.Arrays;
import javax.crypto.Mac;
import javax.crypto.spec.SecretKeySpec;

/** What the document's terms answer, by the Java library's own means. */
final class Reference {
    private Reference() {
    }

    static byte[] sumOf(byte[] row) {
        try {
            return MessageDigest.getInstance("SHA-256").digest(row);
        } catch (GeneralSecurityException e) {
            throw new IllegalStateException(e);
        }
    }

    static byte[] markOf(byte[] key, byte[] row) {
        try {
            Mac mac = Mac.getInstance("HmacSHA256");
            // The library takes no empty key; bytes 0 are put behind a key in any case.
            mac.init(new SecretKeySpec(key.length == 0 ? new byte[1] : key, "HmacSHA256"));
            return mac.doFinal(row);
        } catch (GeneralSecurityException e) {
            throw new IllegalStateException(e);
        }
    }

    static byte[] keyOf(byte[] password, byte[] salt, int turns, int bytes) {
        byte[] key = new byte[(bytes + 31) / 32 * 32];
        for (int part = 1; (part - 1) * 32 < bytes; part++) {
            byte[] row = Arrays.copyOf(salt, salt.length + 4);
            row[salt.length + 3] = (byte) part;
            for (int k = 0; k < turns; k++) {
                row = markOf(password, row);
                for (int n = 0; n < 32; n++) {
                    key[(part - 1) * 32 + n] ^= row[n];
                }
            }
        }
        return Arrays.copyOf(key, bytes);
    }

    /** The 32 bits behind the point of the root: the low bits of the whole root of prime * 2^(32 * degree). */
    static int rootBits(int prime, int degree) {
        BigInteger target = BigInteger.valueOf(prime).shiftLeft(32 * degree);
        BigInteger root = BigInteger.ZERO;
        for (int bit = 40; bit >= 0; bit--) {
            BigInteger more = root.setBit(bit);
            if (more.pow(degree).compareTo(target) <= 0) {
                root = more;
            }
        }
        return root.intValue();
    }

    static int[] primes(int count) {
        int[] primes = new int[count];
        int found = 0;
        for (int n = 2; found < count; n++) {
            if (BigInteger.valueOf(n).isProbablePrime(50)) {
                primes[found] = n;
                found++;
            }
        }
        return primes;
    }
}
