import java.math.BigInteger;

/** Seeds whose rounds compute numbers that a test wants. */
final class Seeds {
    private static final BigInteger MODULUS = BigInteger.ONE.shiftLeft(64);
    private static final BigInteger INVERSE = BigInteger.valueOf(6364136223846793005L).modInverse(MODULUS);
    private static final BigInteger SUMMAND = BigInteger.valueOf(1442695040888963407L);

    private Seeds() {
    }

    /** A seed from which the first round computes this r. */
    static long thatGives(int r) {
        BigInteger x = BigInteger.valueOf(r).shiftLeft(33).subtract(SUMMAND);
        return x.multiply(INVERSE).mod(MODULUS).longValue();
    }

    /** What one must add to r, 0 to 95, so that it means the cell c. */
    static int toCell(int r, int c) {
        return Math.floorMod(c - r, 96);
    }
}
