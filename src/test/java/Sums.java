import java.math.BigInteger;
import java.nio.ByteBuffer;

/** The document's NUMBERS, by the Java library's big integers, apart from the class under test. */
final class Sums {
    static final long P = 2147483579L;
    static final long Q = 1073741789L;
    static final long G = 4;
    static final long M = 9;
    static final long N = 25;

    private Sums() {
    }

    static BigInteger big(long n) {
        return BigInteger.valueOf(n);
    }

    static long digest(long... parts) {
        ByteBuffer bytes = ByteBuffer.allocate(8 * parts.length);
        for (long part : parts) {
            bytes.putLong(part);
        }
        long h = 1469598103934665603L;
        for (byte b : bytes.array()) {
            h = (h ^ Byte.toUnsignedLong(b)) * 1099511628211L;
        }
        h = h ^ (h >>> 32);
        h = h * -7046029254386353131L;
        return h ^ (h >>> 29);
    }

    static long scalar(long d) {
        BigInteger half = new BigInteger(Long.toUnsignedString(d)).shiftRight(1);
        return half.mod(big(Q - 1)).longValueExact() + 1;
    }

    static long power(long base, long exponent) {
        return big(base).modPow(big(exponent), big(P)).longValueExact();
    }

    static long times(long a, long b) {
        return big(a).multiply(big(b)).mod(big(P)).longValueExact();
    }

    static long over(long a, long b) {
        return times(a, big(b).modInverse(big(P)).longValueExact());
    }

    static boolean element(long e) {
        return e >= 1 && e <= P - 1 && power(e, Q) == 1;
    }

    static long word(int user, long password) {
        return scalar(digest(1, user, password));
    }

    static long exponent(long salt, int user, long password) {
        return scalar(digest(2, salt, user, password));
    }

    static long verifier(long salt, int user, long password) {
        return power(G, exponent(salt, user, password));
    }

    static long fakeWord(int seed, int user) {
        return scalar(digest(3, seed, user));
    }

    static long fakeSalt(int seed, int user) {
        return digest(4, seed, user);
    }

    static long fakeVerifier(int seed, int user) {
        return power(G, scalar(digest(5, seed, user)));
    }

    /** The first message of a client of way 0. */
    static long wordX(long secret, long word) {
        return times(power(G, scalar(secret)), power(M, word));
    }

    /** The first message of a server of way 0. */
    static long wordY(long secret, long word) {
        return times(power(G, scalar(secret)), power(N, word));
    }

    /** The first message of a server of way 1. */
    static long saltY(long secret, long verifier) {
        return big(3).multiply(big(verifier)).add(big(power(G, scalar(secret)))).mod(big(P)).longValueExact();
    }

    /** The key of way 0; mask is M at the server, with e = X, and N at the client, with e = Y. */
    static long wordKey(int user, long x, long y, long e, long mask, long word, long secret) {
        long t = over(e, power(mask, word));
        return digest(6, user, x, y, power(t, scalar(secret)), word);
    }

    static long saltKeyOfServer(int user, long x, long y, long verifier, long secret) {
        long u = scalar(digest(7, x, y));
        return digest(8, user, x, y, power(times(x, power(verifier, u)), scalar(secret)));
    }

    static long saltKeyOfClient(int user, long x, long y, long exponent, long secret) {
        long u = scalar(digest(7, x, y));
        long base = big(y).subtract(big(3).multiply(big(power(G, exponent)))).mod(big(P)).longValueExact();
        BigInteger sum = big(scalar(secret)).add(big(u).multiply(big(exponent)));
        return digest(8, user, x, y, power(base, sum.mod(big(Q)).longValueExact()));
    }

    static long confirmationOfClient(long key, long x, long y) {
        return digest(9, key, x, y);
    }

    static long confirmationOfServer(long key, long x, long y) {
        return digest(10, key, confirmationOfClient(key, x, y));
    }
}
