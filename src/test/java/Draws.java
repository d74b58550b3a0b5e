import java.math.BigInteger;

/** The document's r, in numbers that don't wrap by themselves: "as 64 bits hold it" is said here. */
final class Draws {
    private static final BigInteger TWO_64 = BigInteger.ONE.shiftLeft(64);
    private static final BigInteger FACTOR = new BigInteger("6364136223846793005");
    private static final BigInteger STEP = new BigInteger("1442695040888963407");
    private static final long SEEDS_TO_TRY = 1_000_000;

    private BigInteger r;

    Draws(long seed) {
        r = BigInteger.valueOf(seed).mod(TWO_64);
    }

    /** How many stand ahead of the one that moves next, of so many that can. */
    int aheadOf(int able) {
        r = r.multiply(FACTOR).add(STEP).mod(TWO_64);
        return r.shiftRight(33).mod(BigInteger.valueOf(able)).intValue();
    }

    /**
     * The least seed that tells these moves, "2/3" being: of 3 that can move, the one with 2 ahead
     * of it. So a test can say which worker moves, and tell each tick by hand.
     */
    static long seedThatTells(String... moves) {
        for (long seed = 0; seed < SEEDS_TO_TRY; seed++) {
            if (tells(seed, moves)) {
                return seed;
            }
        }
        throw new IllegalStateException("no seed tells " + String.join(" ", moves));
    }

    private static boolean tells(long seed, String[] moves) {
        Draws draws = new Draws(seed);
        for (String move : moves) {
            String[] parts = move.split("/");
            if (draws.aheadOf(Integer.parseInt(parts[1])) != Integer.parseInt(parts[0])) {
                return false;
            }
        }
        return true;
    }
}
