/** Seeds whose first number is the one that a test wants. */
final class Seeds {
    private static final long FACTOR = 6364136223846793005L;
    private static final long ADDEND = 1442695040888963407L;

    private Seeds() {
    }

    static long next(long x) {
        return x * FACTOR + ADDEND;
    }

    /** The seed for which (int) (x >>> 33) is this number, 0 to 2147483647, when x is first replaced. */
    static long forNumber(int number) {
        return (((long) number << 33) - ADDEND) * inverse();
    }

    /** What the factor must be taken times to give 1; each step doubles the bits that are right. */
    private static long inverse() {
        long found = FACTOR;
        for (int step = 0; step < 6; step++) {
            found *= 2 - FACTOR * found;
        }
        return found;
    }
}
