import java.util.Arrays;

/** Shares of work done by several workers, whose moves are told by a seed. */
public final class ShareRuns {
    private static final int MOST_SHARES = 16;
    private static final int MOST_WORKERS = 16;
    private static final int MOST_WORK = 100;
    private static final int MOST_FAULTS = 3;
    private static final int MOST_TICKS = 10000;
    private static final int NONE = -1;
    private static final int STOPPED = -2;

    private final Plan plan;
    private final Race race;
    private boolean known;

    public ShareRuns(int shares) {
        plan = new Plan(shares);
        race = new Race(plan);
        known = false;
    }

    public boolean value(int share, int work, long v, boolean settles)
            throws IndexOutOfBoundsException, IllegalArgumentException {
        needShare(share);
        if (work < 1 || work > MOST_WORK) {
            throw new IllegalArgumentException("work is 1 to 100");
        }
        boolean other = plan.change(share, work, v, settles);
        forgetIf(other);
        return other;
    }

    public boolean faults(int share, int faults)
            throws IndexOutOfBoundsException, IllegalArgumentException {
        needShare(share);
        if (faults < 0 || faults > MOST_FAULTS) {
            throw new IllegalArgumentException("faults are 0 to 3");
        }
        boolean other = plan.changeFaults(share, faults);
        forgetIf(other);
        return other;
    }

    public int run(int workers, long seed, int limit) throws IllegalArgumentException {
        if (workers < 1 || workers > MOST_WORKERS) {
            throw new IllegalArgumentException("workers are 1 to 16");
        }
        if (limit < 0 || limit > MOST_TICKS) {
            throw new IllegalArgumentException("the limit is 0 to 10000");
        }
        race.begin(workers, seed);
        known = race.endsWithin(limit);
        return known ? plan.winner() : STOPPED;
    }

    public long answer() throws IllegalStateException {
        needKnown();
        return plan.outcome();
    }

    public int ticks(int what) throws IllegalStateException {
        needKnown();
        switch (what) {
            case 0:
                return race.countedTicks();
            case 1:
                return race.allTicks() - race.countedTicks();
            case 2:
                return race.allTicks();
            default:
                return -1;
        }
    }

    public int worked(int worker) throws IllegalStateException, IndexOutOfBoundsException {
        needKnown();
        if (!race.hasWorker(worker)) {
            throw new IndexOutOfBoundsException("no such worker");
        }
        return race.movesOf(worker);
    }

    public int done(int k) throws IllegalStateException, IndexOutOfBoundsException {
        needKnown();
        if (!race.hasPlace(k)) {
            throw new IndexOutOfBoundsException("no such place");
        }
        return race.shareInPlace(k);
    }

    public int by(int share) throws IllegalStateException, IndexOutOfBoundsException {
        needKnown();
        needShare(share);
        return plan.isBehindWinner(share) ? NONE : race.doerOf(share);
    }

    public int failed(int share) throws IllegalStateException, IndexOutOfBoundsException {
        needKnown();
        needShare(share);
        return plan.isBehindWinner(share) ? 0 : race.failuresOf(share);
    }

    public int at(int share) throws IllegalStateException, IndexOutOfBoundsException {
        needKnown();
        needShare(share);
        return plan.isBehindWinner(share) ? 0 : race.doneTickOf(share);
    }

    public int count() {
        return plan.size();
    }

    private void needKnown() {
        if (!known) {
            throw new IllegalStateException("nothing is known");
        }
    }

    private void needShare(int share) {
        if (!plan.has(share)) {
            throw new IndexOutOfBoundsException("no such share");
        }
    }

    private void forgetIf(boolean other) {
        if (other) {
            known = false;
        }
    }

    /** What the shares are, whichever run works on them. */
    private static final class Plan {
        private final int size;
        private final int[] work;
        private final long[] worth;
        private final boolean[] settling;
        private final int[] faulty;

        Plan(int shares) {
            size = Math.max(1, Math.min(MOST_SHARES, shares));
            work = new int[MOST_SHARES];
            worth = new long[MOST_SHARES];
            settling = new boolean[MOST_SHARES];
            faulty = new int[MOST_SHARES];
            Arrays.fill(work, 1);
        }

        int size() {
            return size;
        }

        boolean has(int share) {
            return share >= 0 && share < size;
        }

        boolean change(int share, int newWork, long newWorth, boolean newSettling) {
            if (!has(share)) {
                return false;
            }
            boolean other = work[share] != newWork || worth[share] != newWorth
                    || settling[share] != newSettling;
            work[share] = newWork;
            worth[share] = newWorth;
            settling[share] = newSettling;
            return other;
        }

        boolean changeFaults(int share, int newFaults) {
            if (!has(share)) {
                return false;
            }
            boolean other = faulty[share] != newFaults;
            faulty[share] = newFaults;
            return other;
        }

        int workOf(int share) {
            return has(share) ? work[share] : 1;
        }

        int faultsOf(int share) {
            return has(share) ? faulty[share] : 0;
        }

        boolean isSettling(int share) {
            return has(share) && settling[share];
        }

        int winner() {
            for (int share = 0; share < size; share++) {
                if (settling[share]) {
                    return share;
                }
            }
            return NONE;
        }

        boolean isBehindWinner(int share) {
            int winner = winner();
            return winner != NONE && share > winner;
        }

        long outcome() {
            int winner = winner();
            return has(winner) ? worth[winner] : sumOfWorths();
        }

        private long sumOfWorths() {
            long sum = 0;
            for (int share = 0; share < size; share++) {
                sum += worth[share];
            }
            return sum;
        }
    }

    /** The latest run; its rows are made once, so that a run makes no object. */
    private static final class Race {
        private static final long FACTOR = 6364136223846793005L;
        private static final long STEP = 1442695040888963407L;
        private static final int BITS_BELOW_UPPER_31 = 33;

        private final Plan plan;
        private final int[] held;
        private final int[] moves;
        private final int[] ticksOfTry;
        private final int[] spent;
        private final int[] failures;
        private final int[] doer;
        private final int[] doneTick;
        private final int[] order;
        private int crew;
        private int holders;
        private int next;
        private int barrier;
        private int places;
        private int tick;
        private long r;

        Race(Plan plan) {
            this.plan = plan;
            held = new int[MOST_WORKERS];
            moves = new int[MOST_WORKERS];
            ticksOfTry = new int[MOST_SHARES];
            spent = new int[MOST_SHARES];
            failures = new int[MOST_SHARES];
            doer = new int[MOST_SHARES];
            doneTick = new int[MOST_SHARES];
            order = new int[MOST_SHARES];
        }

        void begin(int workers, long seed) {
            Arrays.fill(held, NONE);
            Arrays.fill(moves, 0);
            Arrays.fill(ticksOfTry, 0);
            Arrays.fill(spent, 0);
            Arrays.fill(failures, 0);
            Arrays.fill(doer, NONE);
            Arrays.fill(doneTick, 0);
            crew = Math.max(1, Math.min(MOST_WORKERS, workers));
            holders = 0;
            next = 0;
            barrier = plan.size();
            places = 0;
            tick = 0;
            r = seed;
        }

        boolean endsWithin(int limit) {
            for (int n = 0; n < limit && movers() > 0; n++) {
                oneTick();
            }
            return movers() == 0;
        }

        // Shares are taken in the order of their numbers, and one that was dropped never waits
        // again, so those that wait are always the ones from next up to the barrier: the least
        // share that settles and is done, or the number of shares as long as there is none.
        private boolean someShareWaits() {
            return next < barrier;
        }

        private int movers() {
            return someShareWaits() ? crew : holders;
        }

        private void oneTick() {
            int movers = movers();
            if (movers < 1) {
                return;
            }
            r = r * FACTOR + STEP;
            int upper = (int) (r >>> BITS_BELOW_UPPER_31);
            int worker = moverBehind(upper % movers);
            if (!hasWorker(worker)) {
                return;
            }
            tick++;
            moves[worker]++;
            if (held[worker] == NONE) {
                takeNext(worker);
            }
            int share = held[worker];
            boolean isDone = spendTick(share);
            if (isDone) {
                finish(share, worker);
            }
        }

        private int moverBehind(int ahead) {
            if (someShareWaits()) {
                return ahead;
            }
            int left = ahead;
            for (int worker = 0; worker < crew; worker++) {
                if (held[worker] != NONE) {
                    if (left == 0) {
                        return worker;
                    }
                    left--;
                }
            }
            return NONE;
        }

        private void takeNext(int worker) {
            if (hasWorker(worker) && someShareWaits()) {
                held[worker] = next;
                holders++;
                next++;
            }
        }

        private boolean spendTick(int share) {
            if (!plan.has(share)) {
                return false;
            }
            spent[share]++;
            ticksOfTry[share]++;
            if (ticksOfTry[share] < plan.workOf(share)) {
                return false;
            }
            ticksOfTry[share] = 0;
            if (failures[share] < plan.faultsOf(share)) {
                failures[share]++;
                return false;
            }
            return true;
        }

        private void finish(int share, int worker) {
            if (!plan.has(share) || places >= order.length) {
                return;
            }
            order[places] = share;
            places++;
            doer[share] = worker;
            doneTick[share] = tick;
            letGo(worker);
            if (plan.isSettling(share)) {
                barrier = share;
                dropBehind(share);
            }
        }

        private void dropBehind(int share) {
            for (int worker = 0; worker < crew; worker++) {
                if (held[worker] > share) {
                    letGo(worker);
                }
            }
        }

        private void letGo(int worker) {
            if (hasWorker(worker) && held[worker] != NONE) {
                held[worker] = NONE;
                holders--;
            }
        }

        int countedTicks() {
            int winner = plan.winner();
            int last = winner == NONE ? plan.size() - 1 : winner;
            int sum = 0;
            for (int share = 0; share <= last && share < spent.length; share++) {
                sum += spent[share];
            }
            return sum;
        }

        int allTicks() {
            return tick;
        }

        boolean hasWorker(int worker) {
            return worker >= 0 && worker < crew;
        }

        int movesOf(int worker) {
            return hasWorker(worker) ? moves[worker] : 0;
        }

        boolean hasPlace(int k) {
            return k >= 0 && k < places;
        }

        int shareInPlace(int k) {
            return hasPlace(k) ? order[k] : NONE;
        }

        int doerOf(int share) {
            return plan.has(share) ? doer[share] : NONE;
        }

        int failuresOf(int share) {
            return plan.has(share) ? failures[share] : 0;
        }

        int doneTickOf(int share) {
            return plan.has(share) ? doneTick[share] : 0;
        }
    }
}
