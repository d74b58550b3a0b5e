import java.math.BigInteger;
import java.util.function.LongSupplier;

/** Each promise of the document by its number: ordinary inputs, edges, wrong inputs. */
public final class PromisesTest {
    private static final int MIN = Integer.MIN_VALUE;
    private static final int MAX = Integer.MAX_VALUE;

    private final Checks checks = new Checks();

    public static void main(String[] args) {
        PromisesTest test = new PromisesTest();
        test.newObject();
        test.valueAnswers();
        test.valueForgets();
        test.valueRefuses();
        test.faultsAnswers();
        test.faultsForgets();
        test.faultsRefuses();
        test.runAnswers();
        test.runStops();
        test.runRefuses();
        test.runIsToldByTheSeed();
        test.runLetsOnlyHoldersMove();
        test.runDropsWhatIsBehind();
        test.runBeginsAnew();
        test.answerAnswers();
        test.ticksAnswers();
        test.ticksAreCountedAlike();
        test.workedAnswers();
        test.doneAnswers();
        test.byAnswers();
        test.failedAnswers();
        test.atAnswers();
        test.countAnswers();
        test.readmeIsRight();
        test.checks.end("PromisesTest");
    }

    // Promise 1

    private void newObject() {
        dueCount(MIN, 1);
        dueCount(-1, 1);
        dueCount(0, 1);
        dueCount(1, 1);
        dueCount(2, 2);
        dueCount(15, 15);
        dueCount(16, 16);
        dueCount(17, 16);
        dueCount(MAX, 16);
        dueUnknown("new", new ShareRuns(4));
        ShareRuns x = new ShareRuns(16);
        for (int share = 0; share < 16; share++) {
            checks.due("1: value of a new share", x.value(share, 1, 0L, false), false);
            checks.due("1: faults of a new share", x.faults(share, 0), false);
        }
        dueUnknown("new, after what changes nothing", x);
    }

    private void dueCount(int shares, int want) {
        ShareRuns x = new ShareRuns(shares);
        checks.due("1: count of " + shares, x.count(), want);
        checks.due("1: last share of " + shares, x.value(want - 1, 2, 0L, false), true);
        dueIndex("1: share behind the last of " + shares, () -> Checks.asLong(x.faults(want, 0)));
    }

    // Promise 2

    private void valueAnswers() {
        ShareRuns x = new ShareRuns(3);
        checks.due("2: nothing is another", x.value(1, 1, 0L, false), false);
        checks.due("2: work is another", x.value(1, 100, 0L, false), true);
        checks.due("2: value is another", x.value(1, 100, Long.MIN_VALUE, false), true);
        checks.due("2: settles is another", x.value(1, 100, Long.MIN_VALUE, true), true);
        checks.due("2: all is the same", x.value(1, 100, Long.MIN_VALUE, true), false);
        checks.due("2: upper half of a value", x.value(1, 100, 0L, true), true);
        checks.due("2: no longer settles", x.value(1, 100, 0L, false), true);
        checks.due("2: work is 1 again", x.value(1, 1, 0L, false), true);
        checks.due("2: share 0 stays", x.value(0, 1, 0L, false), false);
        checks.due("2: share 2 stays", x.value(2, 1, 0L, false), false);
        checks.due("2: faults stay", x.faults(1, 0), false);
    }

    private void valueForgets() {
        ShareRuns x = new ShareRuns(3);
        x.run(2, 1L, 10000);
        x.value(2, 1, 0L, false);
        dueKnown("2: the same", x);
        x.value(2, 2, 0L, false);
        dueUnknown("2: another work", x);
        x.value(2, 1, 0L, false);
        dueUnknown("2: the work as it was", x);
        x.run(2, 1L, 10000);
        x.value(2, 1, 1L, false);
        dueUnknown("2: another value", x);
        x.run(2, 1L, 10000);
        x.value(2, 1, 1L, true);
        dueUnknown("2: another settles", x);
    }

    private void valueRefuses() {
        ShareRuns x = new ShareRuns(3);
        x.run(1, 1L, 10000);
        for (int share : new int[] {MIN, -1, 3, 16, MAX}) {
            dueIndex("2: share " + share, () -> Checks.asLong(x.value(share, 2, 1L, true)));
            dueIndex("2: share first, " + share, () -> Checks.asLong(x.value(share, 0, 1L, true)));
        }
        for (int work : new int[] {MIN, -1, 0, 101, MAX}) {
            checks.dueThrow("2: work " + work, Checks.ARGUMENT,
                    () -> Checks.asLong(x.value(0, work, 1L, true)));
        }
        dueKnown("2: what was refused", x);
        checks.due("2: what was refused changed nothing", x.value(0, 1, 0L, false), false);
    }

    // Promise 3

    private void faultsAnswers() {
        ShareRuns x = new ShareRuns(2);
        checks.due("3: still 0", x.faults(1, 0), false);
        for (int faults = 1; faults <= 3; faults++) {
            checks.due("3: now " + faults, x.faults(1, faults), true);
            checks.due("3: again " + faults, x.faults(1, faults), false);
        }
        checks.due("3: share 0 stays", x.faults(0, 0), false);
        checks.due("3: the rest stays", x.value(1, 1, 0L, false), false);
        checks.due("3: back to 0", x.faults(1, 0), true);
    }

    private void faultsForgets() {
        ShareRuns x = new ShareRuns(2);
        x.run(1, 1L, 10000);
        x.faults(1, 0);
        dueKnown("3: the same", x);
        x.faults(1, 1);
        dueUnknown("3: other faults", x);
        x.faults(1, 0);
        dueUnknown("3: faults as they were", x);
    }

    private void faultsRefuses() {
        ShareRuns x = new ShareRuns(2);
        x.run(1, 1L, 10000);
        for (int share : new int[] {MIN, -1, 2, 16, MAX}) {
            dueIndex("3: share " + share, () -> Checks.asLong(x.faults(share, 1)));
            dueIndex("3: share first, " + share, () -> Checks.asLong(x.faults(share, 4)));
        }
        for (int faults : new int[] {MIN, -1, 4, MAX}) {
            checks.dueThrow("3: faults " + faults, Checks.ARGUMENT,
                    () -> Checks.asLong(x.faults(0, faults)));
        }
        dueKnown("3: what was refused", x);
        checks.due("3: what was refused changed nothing", x.faults(0, 0), false);
    }

    // Promise 4

    private void runAnswers() {
        ShareRuns x = new ShareRuns(16);
        checks.due("4: no winner", x.run(3, 1L, 10000), -1);
        x.value(15, 1, 0L, true);
        checks.due("4: the last share wins", x.run(3, 1L, 10000), 15);
        x.value(4, 100, 0L, true);
        x.value(9, 1, 0L, true);
        for (int workers = 1; workers <= 16; workers++) {
            checks.due("4: the least wins, however late", x.run(workers, -1L, 10000), 4);
        }
        x.value(0, 1, 0L, true);
        checks.due("4: share 0 wins", x.run(16, Long.MIN_VALUE, 10000), 0);
        checks.due("4: one share", new ShareRuns(1).run(16, Long.MAX_VALUE, 1), -1);
    }

    private void runStops() {
        ShareRuns x = new ShareRuns(16);
        checks.due("4: limit 0", x.run(1, 1L, 0), -2);
        dueUnknown("4: stopped at once", x);
        checks.due("4: a tick too few", x.run(5, 1L, 15), -2);
        dueUnknown("4: stopped", x);
        checks.due("4: just enough", x.run(5, 1L, 16), -1);
        dueKnown("4: just enough", x);
        checks.due("4: stopped behind one that wasn't", x.run(5, 1L, 15), -2);
        dueUnknown("4: the run ahead of the stopped one", x);
        for (int share = 0; share < 16; share++) {
            x.value(share, 100, 0L, false);
            x.faults(share, 3);
        }
        checks.due("4: the longest, a tick too few", x.run(7, 1L, 6399), -2);
        checks.due("4: the longest", x.run(7, 1L, 6400), -1);
        x.value(0, 100, 0L, true);
        checks.due("4: a winner, a tick too few", x.run(1, 1L, 399), -2);
        dueUnknown("4: stopped with a winner in sight", x);
        checks.due("4: a winner, just enough", x.run(1, 1L, 400), 0);
    }

    private void runRefuses() {
        ShareRuns x = new ShareRuns(3);
        x.run(2, 1L, 10000);
        for (int workers : new int[] {MIN, -1, 0, 17, MAX}) {
            checks.dueThrow("4: workers " + workers, Checks.ARGUMENT, () -> x.run(workers, 1L, 5));
        }
        for (int limit : new int[] {MIN, -1, 10001, MAX}) {
            checks.dueThrow("4: limit " + limit, Checks.ARGUMENT, () -> x.run(1, 1L, limit));
        }
        dueKnown("4: what was refused", x);
        checks.due("4: both workers are still there", x.worked(0) + x.worked(1), 3);
        dueIndex("4: and no third", () -> x.worked(2));
    }

    // Each share takes one tick, so some share waits at every tick and all workers can move.
    private void runIsToldByTheSeed() {
        long[] seeds = {0L, 1L, -1L, 5L, Long.MIN_VALUE, Long.MAX_VALUE, 123456789012345678L};
        for (long seed : seeds) {
            for (int workers = 1; workers <= 16; workers++) {
                ShareRuns x = new ShareRuns(16);
                x.run(workers, seed, 16);
                BigInteger r = BigInteger.valueOf(seed);
                for (int share = 0; share < 16; share++) {
                    r = nextOf(r);
                    String what = "4: seed " + seed + ", " + workers + " workers, share " + share;
                    checks.due(what, x.by(share), pick(r, workers));
                    checks.due(what + " at", x.at(share), share + 1);
                }
            }
        }
    }

    // Two shares for three workers: from the tick on that takes the second, only two can move.
    private void runLetsOnlyHoldersMove() {
        for (long seed = 0; seed < 200; seed++) {
            ShareRuns x = new ShareRuns(2);
            x.value(0, 2, 0L, false);
            x.value(1, 2, 0L, false);
            x.run(3, seed, 4);
            BigInteger r = nextOf(BigInteger.valueOf(seed));
            int first = pick(r, 3);
            r = nextOf(r);
            int second = pick(r, 3);
            if (first == second) {
                checks.due("4: did share 0 alone", x.by(0), first);
                checks.due("4: share 0 at", x.at(0), 2);
                r = nextOf(r);
                checks.due("4: then each can move", x.by(1), pick(r, 3));
                checks.due("4: share 1 at", x.at(1), 4);
            } else {
                r = nextOf(r);
                int third = pick(r, 2) == 0 ? Math.min(first, second) : Math.max(first, second);
                checks.due("4: did share 0", x.by(0), first);
                checks.due("4: did share 1", x.by(1), second);
                checks.due("4: done at 3", x.done(0), third == first ? 0 : 1);
                checks.due("4: done at 4", x.done(1), third == first ? 1 : 0);
            }
        }
    }

    private void runDropsWhatIsBehind() {
        ShareRuns x = new ShareRuns(3);
        x.value(0, 20, 0L, true);
        x.value(1, 100, 0L, true);
        x.value(2, 100, 0L, false);
        int lost = 0;
        for (long seed = 0; seed < 40; seed++) {
            x.run(3, seed, 10000);
            checks.due("4: over as soon as share 0 is done", x.at(0), x.ticks(2));
            checks.due("4: share 0 is done", x.done(0), 0);
            dueIndex("4: no other is", () -> x.done(1));
            lost += x.ticks(1);
        }
        checks.due("4: others had been begun", lost > 0, true);
    }

    private void runBeginsAnew() {
        ShareRuns half = new ShareRuns(1);
        half.value(0, 10, 0L, false);
        half.run(1, 1L, 5);
        half.run(1, 1L, 10000);
        checks.due("4: what a stopped run did is not kept", half.at(0), 10);
        ShareRuns x = settlingEarly();
        x.run(4, 7L, 10000);
        String before = allAnswers(x);
        x.run(16, 3L, 4);
        x.run(1, 7L, 10000);
        checks.due("4: another run, other answers", allAnswers(x).equals(before), false);
        x.run(4, 7L, 10000);
        checks.due("4: the same run, the same answers", allAnswers(x), before);
        ShareRuns fresh = settlingEarly();
        fresh.run(4, 7L, 10000);
        checks.due("4: the same run of a new object", allAnswers(fresh), before);
    }

    // Promise 5

    private void answerAnswers() {
        ShareRuns x = new ShareRuns(3);
        x.run(1, 1L, 10000);
        checks.due("5: no values", x.answer(), 0L);
        x.value(0, 1, -5L, false);
        x.value(1, 9, 7L, false);
        x.value(2, 1, 1L << 40, false);
        x.run(3, 1L, 10000);
        checks.due("5: the sum", x.answer(), (1L << 40) + 2);
        x.value(0, 1, Long.MAX_VALUE, false);
        x.value(1, 1, Long.MAX_VALUE, false);
        x.value(2, 1, 5L, false);
        x.run(3, 1L, 10000);
        checks.due("5: the sum as 64 bits hold it", x.answer(), 3L);
        x.value(1, 50, Long.MIN_VALUE, true);
        x.value(2, 1, 77L, true);
        for (long seed = 0; seed < 40; seed++) {
            x.run(3, seed, 10000);
            checks.due("5: the winner's, seed " + seed, x.answer(), Long.MIN_VALUE);
        }
        x.run(3, 1L, 10);
        checks.dueThrow("5: stopped", Checks.STATE, x::answer);
    }

    // Promise 6

    private void ticksAnswers() {
        ShareRuns x = new ShareRuns(3);
        x.value(0, 100, 0L, true);
        x.value(1, 1, 0L, false);
        x.value(2, 1, 0L, false);
        x.faults(0, 3);
        x.run(1, 1L, 10000);
        dueTicks("6: one worker", x, 400, 0);
        x.run(3, 1L, 10000);
        dueTicks("6: those behind are done long before", x, 400, 2);
        x.value(0, 100, 0L, false);
        x.run(3, 1L, 10000);
        dueTicks("6: without a winner nothing is lost", x, 402, 0);
        for (int what : new int[] {MIN, -1, 3, MAX}) {
            checks.due("6: what " + what, x.ticks(what), -1);
        }
        x.faults(0, 0);
        checks.dueThrow("6: another what of nothing known", Checks.STATE, () -> x.ticks(3));
    }

    private void ticksAreCountedAlike() {
        int wasted = 0;
        for (int workers = 1; workers <= 16; workers++) {
            ShareRuns x = settlingEarly();
            for (long seed = -5; seed < 15; seed++) {
                x.run(workers, seed, 10000);
                checks.due("6: counted", x.ticks(0), 9);
                checks.due("6: lost and counted", x.ticks(0) + x.ticks(1), x.ticks(2));
                wasted += x.ticks(1);
            }
        }
        checks.due("6: some were lost", wasted > 0, true);
    }

    private void dueTicks(String what, ShareRuns x, int counted, int lost) {
        checks.due(what + ", counted", x.ticks(0), counted);
        checks.due(what + ", lost", x.ticks(1), lost);
        checks.due(what + ", all", x.ticks(2), counted + lost);
    }

    // Promise 7

    private void workedAnswers() {
        ShareRuns x = settlingEarly();
        for (int workers = 1; workers <= 16; workers++) {
            x.run(workers, 99L, 10000);
            int sum = 0;
            for (int worker = 0; worker < workers; worker++) {
                sum += x.worked(worker);
            }
            checks.due("7: the workers' ticks are all", sum, x.ticks(2));
            int behind = workers;
            dueIndex("7: worker behind the last", () -> x.worked(behind));
        }
        dueIndex("7: worker -1", () -> x.worked(-1));
        dueIndex("7: least worker", () -> x.worked(MIN));
        dueIndex("7: greatest worker", () -> x.worked(MAX));
        ShareRuns one = new ShareRuns(1);
        one.value(0, 10, 0L, false);
        one.faults(0, 2);
        for (long seed = 0; seed < 20; seed++) {
            one.run(4, seed, 10000);
            for (int worker = 0; worker < 4; worker++) {
                checks.due("7: only who did it moved", one.worked(worker), worker == one.by(0) ? 30 : 0);
            }
        }
    }

    // Promise 8

    private void doneAnswers() {
        ShareRuns x = new ShareRuns(4);
        x.run(1, 1L, 10000);
        for (int k = 0; k < 4; k++) {
            checks.due("8: one worker does them in order", x.done(k), k);
        }
        for (int k : new int[] {MIN, -1, 4, 16, MAX}) {
            dueIndex("8: place " + k, () -> x.done(k));
        }
        x.value(0, 100, 0L, true);
        x.faults(0, 3);
        x.run(2, 1L, 10000);
        checks.due("8: behind the winner, ahead of it", x.done(0), 1);
        checks.due("8: the next of them", x.done(1), 2);
        checks.due("8: the last of them", x.done(2), 3);
        checks.due("8: the winner", x.done(3), 0);
        x.run(1, 1L, 10000);
        checks.due("8: only the winner", x.done(0), 0);
        dueIndex("8: those dropped have no place", () -> x.done(1));
    }

    // Promise 9

    private void byAnswers() {
        ShareRuns x = wonBehindTheOthers();
        checks.due("9: the winner", x.by(1) == 0 || x.by(1) == 1, true);
        checks.due("9: ahead of the winner", x.by(0) == 0 || x.by(0) == 1, true);
        checks.due("9: behind the winner, though done", x.by(2), -1);
        x.run(1, 1L, 10000);
        checks.due("9: one worker", x.by(0), 0);
        checks.due("9: one worker, winner", x.by(1), 0);
        checks.due("9: not done", x.by(2), -1);
        dueShareIsNeeded("9: by", x, x::by);
    }

    // Promise 10

    private void failedAnswers() {
        ShareRuns x = wonBehindTheOthers();
        checks.due("10: ahead of the winner", x.failed(0), 0);
        checks.due("10: the winner", x.failed(1), 3);
        checks.due("10: behind the winner, though two failed", x.failed(2), 0);
        x.value(1, 100, 0L, false);
        x.run(2, 1L, 10000);
        checks.due("10: without a winner", x.failed(2), 2);
        x.faults(1, 1);
        x.run(16, 1L, 10000);
        checks.due("10: failed once", x.failed(1), 1);
        dueShareIsNeeded("10: failed", x, x::failed);
    }

    // Promise 11

    private void atAnswers() {
        ShareRuns x = wonBehindTheOthers();
        checks.due("11: the winner comes last", x.at(1), x.ticks(2));
        checks.due("11: behind the winner, though done", x.at(2), 0);
        x.run(1, 1L, 10000);
        checks.due("11: the first tick is 1", x.at(0), 1);
        checks.due("11: the winner", x.at(1), 401);
        checks.due("11: not done", x.at(2), 0);
        x.value(1, 100, 0L, false);
        x.run(1, 1L, 10000);
        checks.due("11: without a winner", x.at(2), 404);
        dueShareIsNeeded("11: at", x, x::at);
    }

    // Promise 12

    private void countAnswers() {
        ShareRuns x = new ShareRuns(7);
        checks.due("12: new", x.count(), 7);
        x.value(3, 5, 5L, true);
        checks.due("12: nothing known", x.count(), 7);
        x.run(2, 1L, 10000);
        checks.due("12: behind a run", x.count(), 7);
        x.run(2, 1L, 0);
        checks.due("12: behind a stopped run", x.count(), 7);
    }

    private void readmeIsRight() {
        ShareRuns x = new ShareRuns(4);
        x.value(0, 3, 10L, false);
        x.value(1, 2, 20L, true);
        x.value(2, 1, 30L, true);
        x.faults(1, 2);
        checks.due("README: run", x.run(4, 7L, 10000), 1);
        checks.due("README: answer", x.answer(), 20L);
        checks.due("README: counted", x.ticks(0), 9);
        checks.due("README: lost", x.ticks(1), 1);
        checks.due("README: by", x.by(1), 3);
        checks.due("README: done", x.done(0), 2);
    }

    // What the checks above share

    /** Share 1 wins with 9 ticks counted; share 2, which settles too, is mostly done ahead of it. */
    private static ShareRuns settlingEarly() {
        ShareRuns x = new ShareRuns(4);
        x.value(0, 3, 10L, false);
        x.value(1, 2, 20L, true);
        x.value(2, 1, 30L, true);
        x.value(3, 5, 40L, false);
        x.faults(1, 2);
        return x;
    }

    /** Run by two workers: share 1 wins after 400 ticks, long behind share 2, which failed twice. */
    private ShareRuns wonBehindTheOthers() {
        ShareRuns x = new ShareRuns(3);
        x.value(1, 100, 0L, true);
        x.faults(1, 3);
        x.faults(2, 2);
        checks.due("share 1 wins", x.run(2, 1L, 10000), 1);
        checks.due("share 2 was done too", x.done(1), 2);
        return x;
    }

    private static BigInteger nextOf(BigInteger r) {
        return r.multiply(new BigInteger("6364136223846793005"))
                .add(new BigInteger("1442695040888963407"))
                .mod(BigInteger.ONE.shiftLeft(64));
    }

    private static int pick(BigInteger r, int movers) {
        return r.shiftRight(33).mod(BigInteger.valueOf(movers)).intValue();
    }

    private interface OfShare {
        int answer(int share);
    }

    private void dueShareIsNeeded(String what, ShareRuns x, OfShare call) {
        for (int share : new int[] {MIN, -1, x.count(), 16, MAX}) {
            dueIndex(what + " of " + share, () -> call.answer(share));
        }
    }

    private void dueIndex(String what, LongSupplier call) {
        checks.dueThrow(what, Checks.INDEX, call);
    }

    private void dueKnown(String what, ShareRuns x) {
        checks.due(what + " leaves all known", Checks.answerOf(() -> x.ticks(3)), "-1");
    }

    // Places that aren't there are asked for too: that nothing is known comes first.
    private void dueUnknown(String what, ShareRuns x) {
        checks.dueThrow(what + ": answer", Checks.STATE, x::answer);
        for (int n : new int[] {MIN, -1, 0, 1, 16, MAX}) {
            checks.dueThrow(what + ": ticks " + n, Checks.STATE, () -> x.ticks(n));
            checks.dueThrow(what + ": worked " + n, Checks.STATE, () -> x.worked(n));
            checks.dueThrow(what + ": done " + n, Checks.STATE, () -> x.done(n));
            checks.dueThrow(what + ": by " + n, Checks.STATE, () -> x.by(n));
            checks.dueThrow(what + ": failed " + n, Checks.STATE, () -> x.failed(n));
            checks.dueThrow(what + ": at " + n, Checks.STATE, () -> x.at(n));
        }
    }

    private static String allAnswers(ShareRuns x) {
        StringBuilder all = new StringBuilder(Checks.answerOf(x::answer));
        for (int i = 0; i <= 16; i++) {
            int n = i;
            all.append(' ').append(Checks.answerOf(() -> x.ticks(n)));
            all.append(' ').append(Checks.answerOf(() -> x.worked(n)));
            all.append(' ').append(Checks.answerOf(() -> x.done(n)));
            all.append(' ').append(Checks.answerOf(() -> x.by(n)));
            all.append(' ').append(Checks.answerOf(() -> x.failed(n)));
            all.append(' ').append(Checks.answerOf(() -> x.at(n)));
        }
        return all.toString();
    }
}
