import java.math.BigInteger;
import java.util.ArrayList;
import java.util.List;

/**
 * The document's terms, told word by word and without any short cut: every TICK asks anew, of every
 * SHARE and every WORKER, who WAITS and who can MOVE. Used to check the class, so it shares no code
 * and no thought of how to be quick with it.
 */
final class PlainModel {
    static final class Share {
        int work = 1;
        long value = 0;
        boolean settles = false;
        int faults = 0;

        int worker = -1;
        boolean done = false;
        int tries = 0;
        int ticksOfTry = 0;
        int ticks = 0;
        int by = -1;
        int at = 0;
    }

    private final Share[] shares;
    private boolean known = false;
    private int[] moved = new int[0];
    private int allTicks = 0;
    private final List<Integer> order = new ArrayList<>();

    PlainModel(int shares) {
        int count = shares < 1 ? 1 : shares > 16 ? 16 : shares;
        this.shares = new Share[count];
        for (int i = 0; i < count; i++) {
            this.shares[i] = new Share();
        }
    }

    boolean value(int share, int work, long v, boolean settles) {
        Share s = share(share);
        if (work < 1 || work > 100) {
            throw new IllegalArgumentException();
        }
        if (s.work == work && s.value == v && s.settles == settles) {
            return false;
        }
        s.work = work;
        s.value = v;
        s.settles = settles;
        known = false;
        return true;
    }

    boolean faults(int share, int faults) {
        Share s = share(share);
        if (faults < 0 || faults > 3) {
            throw new IllegalArgumentException();
        }
        if (s.faults == faults) {
            return false;
        }
        s.faults = faults;
        known = false;
        return true;
    }

    int run(int workers, long seed, int limit) {
        if (workers < 1 || workers > 16 || limit < 0 || limit > 10000) {
            throw new IllegalArgumentException();
        }
        known = false;
        allTicks = 0;
        moved = new int[workers];
        order.clear();
        for (Share s : shares) {
            s.worker = -1;
            s.done = false;
            s.tries = 0;
            s.ticksOfTry = 0;
            s.ticks = 0;
            s.by = -1;
            s.at = 0;
        }
        Draws draws = new Draws(seed);
        List<Integer> able = ableWorkers();
        while (!able.isEmpty()) {
            if (allTicks == limit) {
                return -2;
            }
            move(able.get(draws.aheadOf(able.size())));
            able = ableWorkers();
        }
        known = true;
        return winner();
    }

    private List<Integer> ableWorkers() {
        List<Integer> able = new ArrayList<>();
        for (int worker = 0; worker < moved.length; worker++) {
            if (shareOf(worker) != -1 || leastWaiting() != -1) {
                able.add(worker);
            }
        }
        return able;
    }

    private int shareOf(int worker) {
        for (int i = 0; i < shares.length; i++) {
            if (shares[i].worker == worker) {
                return i;
            }
        }
        return -1;
    }

    private int leastWaiting() {
        for (int i = 0; i < shares.length; i++) {
            if (waits(i)) {
                return i;
            }
        }
        return -1;
    }

    private boolean waits(int share) {
        if (shares[share].worker != -1 || shares[share].done) {
            return false;
        }
        for (int i = 0; i < share; i++) {
            if (shares[i].settles && shares[i].done) {
                return false;
            }
        }
        return true;
    }

    private void move(int worker) {
        allTicks++;
        moved[worker]++;
        int number = shareOf(worker);
        if (number == -1) {
            number = leastWaiting();
            shares[number].worker = worker;
        }
        Share s = shares[number];
        s.ticks++;
        s.ticksOfTry++;
        if (s.ticksOfTry == s.work) {
            s.ticksOfTry = 0;
            s.tries++;
            if (s.tries > s.faults) {
                finish(number, worker);
            }
        }
    }

    private void finish(int number, int worker) {
        Share s = shares[number];
        s.done = true;
        s.worker = -1;
        s.by = worker;
        s.at = allTicks;
        order.add(number);
        if (s.settles) {
            for (int i = number + 1; i < shares.length; i++) {
                shares[i].worker = -1;
            }
        }
    }

    private int winner() {
        for (int i = 0; i < shares.length; i++) {
            if (shares[i].settles) {
                return i;
            }
        }
        return -1;
    }

    private boolean counts(int share) {
        return winner() == -1 || share <= winner();
    }

    long answer() {
        needKnown();
        if (winner() != -1) {
            return shares[winner()].value;
        }
        BigInteger sum = BigInteger.ZERO;
        for (Share s : shares) {
            sum = sum.add(BigInteger.valueOf(s.value));
        }
        return sum.longValue();
    }

    int ticks(int what) {
        needKnown();
        int counted = 0;
        int lost = 0;
        for (int i = 0; i < shares.length; i++) {
            if (counts(i)) {
                counted += shares[i].ticks;
            } else {
                lost += shares[i].ticks;
            }
        }
        return what == 0 ? counted : what == 1 ? lost : what == 2 ? allTicks : -1;
    }

    int worked(int worker) {
        needKnown();
        if (worker < 0 || worker >= moved.length) {
            throw new IndexOutOfBoundsException();
        }
        return moved[worker];
    }

    int done(int k) {
        needKnown();
        if (k < 0 || k >= order.size()) {
            throw new IndexOutOfBoundsException();
        }
        return order.get(k);
    }

    int by(int share) {
        needKnown();
        Share s = share(share);
        return s.done && counts(share) ? s.by : -1;
    }

    int failed(int share) {
        needKnown();
        Share s = share(share);
        return counts(share) ? s.tries - (s.done ? 1 : 0) : 0;
    }

    int at(int share) {
        needKnown();
        Share s = share(share);
        return s.done && counts(share) ? s.at : 0;
    }

    int count() {
        return shares.length;
    }

    private void needKnown() {
        if (!known) {
            throw new IllegalStateException();
        }
    }

    private Share share(int share) {
        if (share < 0 || share >= shares.length) {
            throw new IndexOutOfBoundsException();
        }
        return shares[share];
    }
}
