import java.math.BigInteger;
import java.util.Random;

/** Promise 4: the sum, against numbers without a width. */
public final class SumTest {
    private static final Check CHECK = new Check("SumTest");
    private static final BigInteger MODULUS = BigInteger.ONE.shiftLeft(64);
    private static final BigInteger FACTOR = new BigInteger("9E3779B97F4A7C15", 16);

    public static void main(String[] args) {
        TrustRows x = new TrustRows(1);
        CHECK.due("sum(0, 0, 0)", x.sum(0L, 0L, 0L), 0L);
        CHECK.due("sum(5, 1, 9)", x.sum(5L, 1L, 9L), 8258202604479039397L);
        long[] edges = {0L, 1L, -1L, 255L, 256L, 128L, 1L << 56, Long.MIN_VALUE, Long.MAX_VALUE, 0x0123456789ABCDEFL};
        for (long key : edges) {
            for (long action : edges) {
                for (long digest : edges) {
                    compare(key, action, digest);
                }
            }
        }
        Random random = new Random(4L);
        for (int i = 0; i < 500; i++) {
            compare(random.nextLong(), random.nextLong(), random.nextLong());
        }
        CHECK.end();
    }

    // Nothing is promised of an object after 512 calls, so each sum has an object of its own.
    private static void compare(long key, long action, long digest) {
        TrustRows x = new TrustRows(1);
        String call = "sum(" + key + ", " + action + ", " + digest + ")";
        CHECK.due(call, x.sum(key, action, digest), plainSum(key, action, digest));
    }

    private static long plainSum(long key, long action, long digest) {
        BigInteger x = unsigned(key);
        String bytes = String.format("%016x%016x", action, digest);
        for (int i = 0; i < 32; i += 2) {
            x = x.xor(new BigInteger(bytes.substring(i, i + 2), 16));
            x = x.shiftLeft(11).mod(MODULUS).or(x.shiftRight(53));
            x = x.multiply(FACTOR).mod(MODULUS);
        }
        return x.longValue();
    }

    private static BigInteger unsigned(long value) {
        return BigInteger.valueOf(value).mod(MODULUS);
    }
}
