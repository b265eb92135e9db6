import java.math.BigInteger;

/** The numbers that a simulation draws, reckoned without any overflow. */
final class Numbers {
    private static final BigInteger FACTOR = BigInteger.valueOf(1103515245);
    private static final BigInteger SUMMAND = BigInteger.valueOf(12345);
    private static final BigInteger MODULUS = BigInteger.ONE.shiftLeft(32);
    private BigInteger z;

    Numbers(int seed) {
        z = BigInteger.valueOf(seed).mod(MODULUS);
    }

    int next() {
        z = z.multiply(FACTOR).add(SUMMAND).mod(MODULUS);
        return z.shiftRight(16).intValue() & 32767;
    }
}
