import java.math.BigInteger;
import java.util.Random;

/** Promise 4: the sum, against numbers without a width. */
public final class SumTest {
    private static final Check CHECK = new Check("SumTest");
    private static final BigInteger MODULUS = BigInteger.ONE.shiftLeft(64);
    private static final BigInteger FACTOR = new BigInteger("9E3779B97F4A7C15", 16);
    private static final long[] EDGES = {
        0L, 1L, -1L, 127L, 128L, 255L, 256L, 1L << 31, 1L << 32, 1L << 56, Long.MIN_VALUE, Long.MAX_VALUE,
        0x0123456789ABCDEFL};

    public static void main(String[] args) {
        knownSums();
        edges();
        turnedAndWrapped();
        everyByteHasItsPlace();
        bytesAreWithoutASign();
        chance();
        leavesTheObjectAlone();
        CHECK.end();
    }

    private static void knownSums() {
        TrustRows x = new TrustRows(1);
        CHECK.due("sum(0, 0, 0)", x.sum(0L, 0L, 0L), 0L);
        CHECK.due("sum(5, 1, 9)", x.sum(5L, 1L, 9L), 8258202604479039397L);
        CHECK.due("sum(-1, -2, ..)", x.sum(-1L, -2L, 1311768467463790320L), -6017884379831888030L);
    }

    private static void edges() {
        for (long key : EDGES) {
            for (long action : EDGES) {
                for (long digest : EDGES) {
                    compare(key, action, digest);
                }
            }
        }
    }

    // "modulo 2 to the 64", "x turned left by n bits": each bit of a key is turned over the top sooner or later.
    private static void turnedAndWrapped() {
        for (int bit = 0; bit < 64; bit++) {
            compare(1L << bit, 0L, 0L);
            compare(-1L << bit, 0L, 0L);
            compare(-1L >>> bit, 0L, 0L);
        }
    }

    // "for each of the sixteen bytes of ACTION, then DIGEST, the highest first".
    private static void everyByteHasItsPlace() {
        for (int shift = 0; shift < 64; shift += 8) {
            compare(7L, 1L << shift, 0L);
            compare(7L, 0L, 1L << shift);
            compare(7L, 0x5AL << shift, 0xA5L << shift);
        }
        TrustRows x = new TrustRows(1);
        CHECK.due("action and digest turned about", x.sum(7L, 1L, 2L) == x.sum(7L, 2L, 1L), false);
    }

    private static void bytesAreWithoutASign() {
        for (int value = 0; value < 256; value++) {
            compare(3L, value, 0L);
            compare(3L, 0L, (long) value << 56);
        }
    }

    private static void chance() {
        Random random = new Random(4L);
        for (int i = 0; i < 500; i++) {
            compare(random.nextLong(), random.nextLong(), random.nextLong());
        }
    }

    private static void leavesTheObjectAlone() {
        TrustRows x = new TrustRows(1);
        long first = x.sum(1L, 2L, 3L);
        CHECK.due("taken after a sum", x.taken(), 0L);
        CHECK.due("the same sum again", x.sum(1L, 2L, 3L), first);
        CHECK.due("writer after a sum", x.writer(0), 0L);
    }

    // Nothing is promised of an object after 512 calls, so each sum has an object of its own.
    private static void compare(long key, long action, long digest) {
        TrustRows x = new TrustRows(1);
        String call = "sum(" + key + ", " + action + ", " + digest + ")";
        CHECK.due(call, x.sum(key, action, digest), plainSum(key, action, digest));
    }

    private static long plainSum(long key, long action, long digest) {
        BigInteger x = unsigned(key);
        String bytes = String.format("%016x%016x", action, digest);
        for (int i = 0; i < 32; i += 2) {
            x = x.xor(new BigInteger(bytes.substring(i, i + 2), 16));
            x = x.shiftLeft(11).mod(MODULUS).or(x.shiftRight(53));
            x = x.multiply(FACTOR).mod(MODULUS);
        }
        return x.longValue();
    }

    private static BigInteger unsigned(long value) {
        return BigInteger.valueOf(value).mod(MODULUS);
    }
}
