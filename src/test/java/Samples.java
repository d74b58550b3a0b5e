/** Six shares of several works and faults, used where a test needs some that are not alike. */
final class Samples {
    static final int SHARES = 6;

    private Samples() {
    }

    /** The share with this number settles, and all behind it; none does if it is below 0. */
    static ShareRuns ofMany(int winner) {
        ShareRuns x = new ShareRuns(SHARES);
        for (int share = 0; share < SHARES; share++) {
            x.value(share, workOf(share), share, winner >= 0 && share >= winner);
            x.faults(share, faultsOf(share));
        }
        return x;
    }

    /** The ticks that the shares up to this one take. */
    static int neededUpTo(int last) {
        int needed = 0;
        for (int share = 0; share <= last; share++) {
            needed += workOf(share) * (faultsOf(share) + 1);
        }
        return needed;
    }

    private static int workOf(int share) {
        return 12 - 2 * share;
    }

    static int faultsOf(int share) {
        return share % 4;
    }
}
