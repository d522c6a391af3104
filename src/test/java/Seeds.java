import java.math.BigInteger;

/** The numbers r of a simulation, reckoned without overflow, and seeds from which wanted ones come. */
final class Seeds {
    private static final long FACTOR = 6364136223846793005L;
    private static final long SUMMAND = 1442695040888963407L;
    private static final BigInteger ROUND = BigInteger.ONE.shiftLeft(64);

    private Seeds() {
    }

    /** The numbers r of the first rounds. */
    static int[] numbers(long seed, int rounds) {
        int[] numbers = new int[rounds];
        BigInteger x = BigInteger.valueOf(seed).mod(ROUND);
        for (int i = 0; i < rounds; i++) {
            x = x.multiply(BigInteger.valueOf(FACTOR)).add(BigInteger.valueOf(SUMMAND)).mod(ROUND);
            numbers[i] = x.shiftRight(33).intValueExact();
        }
        return numbers;
    }

    private static long inverseOfFactor() {
        long inverse = 1;
        for (int i = 0; i < 6; i++) {
            inverse *= 2 - FACTOR * inverse;
        }
        return inverse;
    }

    /** A seed from which the first round comes to r, and each later one to this remainder by 8. */
    static long seedFor(int r, int... later) {
        for (long low = 0; low < 100000; low++) {
            long seed = (((long) r << 33) + low - SUMMAND) * inverseOfFactor();
            if (comesTo(numbers(seed, 1 + later.length), r, later)) {
                return seed;
            }
        }
        throw new IllegalStateException("no such seed");
    }

    private static boolean comesTo(int[] numbers, int r, int[] later) {
        boolean all = numbers[0] == r;
        for (int i = 0; i < later.length; i++) {
            all &= numbers[i + 1] % 8 == later[i];
        }
        return all;
    }
}
