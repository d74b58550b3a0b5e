/**
 * The sentences of the document's "Terms", each by a test of its own that bears the number of the
 * promise whose answers show it. Where it matters who moves, Draws.seedThatTells finds a seed for
 * the moves that the test then tells tick by tick.
 */
public final class TermsTest {
    private static final int MOST = 10000;

    private final Checks checks = new Checks();
    private final Answers answers = new Answers(checks);

    public static void main(String[] args) {
        TermsTest test = new TermsTest();
        test.ofShares();
        test.ofRuns();
        test.ofMoves();
        test.ofWinners();
        test.ofWhatIsKnown();
        test.checks.end("TermsTest");
    }

    // "SHARES have numbers from 0 on. A SHARE has .."

    private void ofShares() {
        checks.sentence(1, "SHARES have numbers from 0 on.", this::sharesFromZero);
        checks.sentence(2, "A SHARE has WORK, 1 .. 100", this::workIsOneToHundred);
        checks.sentence(2, "a VALUE", this::valueIsAnyLong);
        checks.sentence(3, "and FAULTS, 0 .. 3", this::faultsAreZeroToThree);
        checks.sentence(1, "WORK is 1 .. at first", this::workIsOneAtFirst);
        checks.sentence(1, "the VALUE 0 .. at first", this::valueIsZeroAtFirst);
        checks.sentence(1, "it doesn't SETTLE .. at first", this::noneSettlesAtFirst);
        checks.sentence(1, "FAULTS are 0 at first", this::faultsAreZeroAtFirst);
        checks.sentence(4, "A TRY of it takes as many TICKS as its WORK", this::tryTakesItsWork);
        checks.sentence(10, "its first TRIES, as many as its FAULTS, fail", this::firstTriesFail);
        checks.sentence(11, "fail with their last TICK", this::triesFailWithTheirLastTick);
        checks.sentence(11, "the next one does it", this::nextTryDoesIt);
    }

    private void sharesFromZero() {
        for (int shares = 1; shares <= 16; shares++) {
            ShareRuns x = new ShareRuns(shares);
            x.run(1, 0L, 16);
            for (int share = 0; share < shares; share++) {
                checks.due("done " + share + " of " + shares, x.done(share), share);
                checks.due("at " + share + " of " + shares, x.at(share), share + 1);
            }
            answers.dueIndexes("at, " + shares + " shares,", x::at, -1, shares);
        }
    }

    private void workIsOneToHundred() {
        for (int work : new int[] {1, 2, 99, 100}) {
            ShareRuns x = new ShareRuns(1);
            x.value(0, work, 0L, false);
            x.run(1, 0L, MOST);
            checks.due("ticks for work " + work, x.ticks(2), work);
        }
        ShareRuns x = new ShareRuns(1);
        for (int work : new int[] {0, 101}) {
            checks.dueThrow("work " + work, Checks.ARGUMENT,
                    () -> Checks.asLong(x.value(0, work, 0L, false)));
        }
    }

    private void valueIsAnyLong() {
        ShareRuns x = new ShareRuns(1);
        long[] values = {1L, -1L, 1L << 31, 1L << 32, Long.MAX_VALUE, Long.MIN_VALUE, 0L};
        for (long v : values) {
            checks.due("value " + v + " is another", x.value(0, 1, v, false), true);
            x.run(1, 0L, MOST);
            checks.due("answer of value " + v, x.answer(), v);
        }
    }

    private void faultsAreZeroToThree() {
        ShareRuns x = new ShareRuns(1);
        for (int faults : new int[] {3, 2, 1, 0}) {
            x.faults(0, faults);
            x.run(1, 0L, MOST);
            checks.due("ticks for faults " + faults, x.ticks(2), faults + 1);
        }
        for (int faults : new int[] {-1, 4}) {
            checks.dueThrow("faults " + faults, Checks.ARGUMENT,
                    () -> Checks.asLong(x.faults(0, faults)));
        }
    }

    private void workIsOneAtFirst() {
        ShareRuns x = new ShareRuns(16);
        checks.due("16 ticks are enough", x.run(1, 0L, 16), -1);
        for (int share = 0; share < 16; share++) {
            checks.due("at " + share, x.at(share), share + 1);
            checks.due("work 1 is no other for " + share, x.value(share, 1, 0L, false), false);
        }
    }

    private void valueIsZeroAtFirst() {
        ShareRuns x = new ShareRuns(16);
        x.run(1, 0L, MOST);
        checks.due("the sum", x.answer(), 0L);
        for (int share = 0; share < 16; share++) {
            checks.due("value 0 is no other for " + share, x.value(share, 1, 0L, false), false);
            x.value(share, 1, 0L, true);
            x.run(1, 0L, MOST);
            checks.due("the value of " + share, x.answer(), 0L);
            x.value(share, 1, 0L, false);
        }
    }

    private void noneSettlesAtFirst() {
        for (int shares = 1; shares <= 16; shares++) {
            ShareRuns x = new ShareRuns(shares);
            checks.due("the winner of " + shares, x.run(1, 0L, MOST), -1);
            checks.due("all are done of " + shares, x.ticks(2), shares);
        }
    }

    private void faultsAreZeroAtFirst() {
        ShareRuns x = new ShareRuns(16);
        x.run(1, 0L, MOST);
        for (int share = 0; share < 16; share++) {
            checks.due("failed " + share, x.failed(share), 0);
            checks.due("faults 0 are no others for " + share, x.faults(share, 0), false);
        }
        checks.due("no tick for a try that failed", x.ticks(2), 16);
    }

    private void tryTakesItsWork() {
        for (int work = 1; work <= 100; work++) {
            ShareRuns x = new ShareRuns(1);
            x.value(0, work, 0L, false);
            checks.due("a tick too few for " + work, x.run(1, 0L, work - 1), -2);
            checks.due("just enough for " + work, x.run(1, 0L, work), -1);
            checks.due("at, work " + work, x.at(0), work);
        }
    }

    private void firstTriesFail() {
        for (int faults = 0; faults <= 3; faults++) {
            for (int work : new int[] {1, 2, 100}) {
                checks.due("failed, work " + work, ofOneShare(work, faults).failed(0), faults);
            }
        }
    }

    private void triesFailWithTheirLastTick() {
        for (int work : new int[] {1, 2, 3, 99, 100}) {
            checks.due("one fault, work " + work, ofOneShare(work, 1).at(0), work + work);
        }
        // Worker 0's try of share 0 has a tick left when worker 1 begins share 1; it fails with that
        // tick and not with one of worker 1's.
        ShareRuns x = new ShareRuns(2);
        x.value(0, 2, 0L, false);
        x.value(1, 3, 0L, false);
        x.faults(0, 1);
        x.run(2, Draws.seedThatTells("0/2", "1/2", "1/2", "1/2"), MOST);
        checks.due("share 1 is done while share 0's try stands still", x.at(1), 4);
        checks.due("share 0 has three ticks to go", x.at(0), 7);
    }

    private void nextTryDoesIt() {
        for (int faults = 0; faults <= 3; faults++) {
            for (int work : new int[] {1, 2, 100}) {
                ShareRuns x = ofOneShare(work, faults);
                int needed = work * (faults + 1);
                checks.due("at, work " + work + ", faults " + faults, x.at(0), needed);
                checks.due("by", x.by(0), 0);
                checks.due("a tick too few", x.run(1, 0L, needed - 1), -2);
                checks.due("just enough", x.run(1, 0L, needed), -1);
            }
        }
    }

    // "A RUN has WORKERS .. As long as some WORKER can MOVE the RUN goes on"

    private void ofRuns() {
        checks.sentence(7, "A RUN has WORKERS, numbers from 0 on", this::workersFromZero);
        checks.sentence(4, "none of which has a SHARE at first", this::noneHasAShareAtFirst);
        checks.sentence(4, "A SHARE WAITS if no WORKER has it", this::whatAWorkerHasDoesNotWait);
        checks.sentence(4, "it isn't done", this::whatIsDoneDoesNotWait);
        checks.sentence(4, "and no SHARE that SETTLES with a number below its own is done.",
                this::behindASettledOneNoneWaits);
        checks.sentence(4, "a number below its own", this::aheadOfASettledOneWorkGoesOn);
        checks.sentence(4, "A WORKER can MOVE if it has a SHARE", this::holdersCanMove);
        checks.sentence(4, "or some SHARE WAITS", this::allCanMoveWhileAShareWaits);
        checks.sentence(4, "As long as some WORKER can MOVE the RUN goes on",
                this::goesOnWhileOneCanMove);
        checks.sentence(7, "TICK by TICK", this::oneWorkerMovesATick);
    }

    private void workersFromZero() {
        ShareRuns x = new ShareRuns(1);
        for (int workers = 1; workers <= 16; workers++) {
            x.run(workers, Draws.seedThatTells("0/" + workers), MOST);
            checks.due("worker 0 of " + workers, x.worked(0), 1);
            x.run(workers, Draws.seedThatTells((workers - 1) + "/" + workers), MOST);
            checks.due("the last of " + workers, x.worked(workers - 1), 1);
            answers.dueIndexes("worked, " + workers + " workers,", x::worked, -1, workers);
        }
    }

    private void noneHasAShareAtFirst() {
        ShareRuns x = new ShareRuns(2);
        x.value(0, 10, 0L, false);
        x.value(1, 10, 0L, false);
        checks.due("stopped, both hold a share", x.run(2, Draws.seedThatTells("1/2", "0/2"), 5), -2);
        x.run(2, Draws.seedThatTells("0/2", "1/2"), MOST);
        checks.due("share 0 is the first that is taken", x.by(0), 0);
        checks.due("share 1 is the second", x.by(1), 1);
        checks.due("each is begun anew", x.ticks(2), 20);
        // Stopped with worker 2 holding the only share: one run later it isn't worker 2's.
        ShareRuns y = new ShareRuns(1);
        y.value(0, 3, 0L, false);
        y.run(3, Draws.seedThatTells("2/3"), 2);
        y.run(3, Draws.seedThatTells("1/3"), MOST);
        checks.due("by", y.by(0), 1);
        checks.due("worked of who had it", y.worked(2), 0);
        checks.due("at", y.at(0), 3);
    }

    private void whatAWorkerHasDoesNotWait() {
        ShareRuns x = new ShareRuns(2);
        x.value(0, 2, 0L, false);
        x.value(1, 2, 0L, false);
        // 1 takes share 0; 0, which can move as share 1 waits, takes that one and not share 0.
        x.run(2, Draws.seedThatTells("1/2", "0/2", "0/2"), MOST);
        checks.due("share 0 by", x.by(0), 1);
        checks.due("share 1 by", x.by(1), 0);
        checks.due("share 1 at", x.at(1), 3);
        checks.due("share 0 at", x.at(0), 4);
        ShareRuns one = new ShareRuns(1);
        one.value(0, 20, 0L, false);
        for (long seed = 0; seed < 20; seed++) {
            one.run(16, seed, MOST);
            checks.due("one share, one worker, seed " + seed, one.worked(one.by(0)), 20);
        }
    }

    private void whatIsDoneDoesNotWait() {
        ShareRuns x = new ShareRuns(3);
        checks.due("over when all are done", x.run(1, 0L, 3), -1);
        checks.due("a tick for each", x.ticks(2), 3);
        for (int k = 0; k < 3; k++) {
            checks.due("each is done once, place " + k, x.done(k), k);
        }
        answers.dueIndex("no fourth place", () -> x.done(3));
    }

    private void behindASettledOneNoneWaits() {
        for (int settling = 0; settling < 4; settling++) {
            ShareRuns x = new ShareRuns(4);
            x.value(settling, 1, 0L, true);
            checks.due("one worker, share " + settling + " settles", x.run(1, 0L, MOST), settling);
            checks.due("over with its tick", x.ticks(2), settling + 1);
            checks.due("it is done last", x.done(settling), settling);
            int behind = settling + 1;
            answers.dueIndex("none behind it is done", () -> x.done(behind));
        }
        // 0 takes share 0, of work 5; 1 does share 1, that settles: share 2 doesn't wait for it.
        ShareRuns x = new ShareRuns(3);
        x.value(0, 5, 0L, false);
        x.value(1, 1, 0L, true);
        x.run(2, Draws.seedThatTells("0/2", "1/2"), MOST);
        checks.due("worker 1 moves no more", x.worked(1), 1);
        checks.due("share 2 has no tick", x.ticks(2), 6);
    }

    private void aheadOfASettledOneWorkGoesOn() {
        ShareRuns x = new ShareRuns(4);
        x.value(0, 5, 0L, false);
        x.value(1, 4, 0L, true);
        x.value(2, 1, 0L, true);
        // 0, 1 and 2 take a share each; 2's is done at once and settles: 0 and 1 go on.
        x.run(3, Draws.seedThatTells("0/3", "1/3", "2/3", "0/2", "0/2", "0/2", "0/2"), MOST);
        checks.due("share 2 is done first", x.done(0), 2);
        checks.due("share 0 at", x.at(0), 7);
        checks.due("share 1 at", x.at(1), 10);
        checks.due("all ticks", x.ticks(2), 10);
    }

    private void holdersCanMove() {
        ShareRuns x = new ShareRuns(2);
        x.value(0, 3, 0L, false);
        x.value(1, 3, 0L, false);
        // No share waits from the third tick on: 0 and 2 alone can move, then 0 alone.
        x.run(3, Draws.seedThatTells("2/3", "0/3", "1/2", "1/2"), MOST);
        checks.due("share 0 by", x.by(0), 2);
        checks.due("share 0 at", x.at(0), 4);
        checks.due("share 1 by", x.by(1), 0);
        checks.due("share 1 at", x.at(1), 6);
        checks.due("worker 1 can't move", x.worked(1), 0);
    }

    private void allCanMoveWhileAShareWaits() {
        ShareRuns x = new ShareRuns(3);
        x.value(0, 2, 0L, false);
        // 2 takes share 0; 1 does share 1; share 2 waits, so all three can move: 2 does share 0;
        // share 2 still waits: 0 does it.
        x.run(3, Draws.seedThatTells("2/3", "1/3", "2/3", "0/3"), MOST);
        checks.due("share 0 by", x.by(0), 2);
        checks.due("share 0 at", x.at(0), 3);
        checks.due("share 1 by", x.by(1), 1);
        checks.due("share 1 at", x.at(1), 2);
        checks.due("share 2 by", x.by(2), 0);
        checks.due("share 2 at", x.at(2), 4);
    }

    private void goesOnWhileOneCanMove() {
        ShareRuns x = new ShareRuns(4);
        int needed = 0;
        for (int share = 0; share < 4; share++) {
            x.value(share, 7 + share, 0L, false);
            x.faults(share, share);
            needed += (7 + share) * (share + 1);
        }
        for (int workers = 1; workers <= 16; workers++) {
            x.run(workers, workers, MOST);
            checks.due("ticks with " + workers + " workers", x.ticks(2), needed);
            for (int share = 0; share < 4; share++) {
                checks.due("share " + share + " is done", x.at(share) > 0, true);
            }
        }
        // Share 1 settles with tick 2 and wins, but worker 0 can move till share 0 is done.
        ShareRuns y = new ShareRuns(2);
        y.value(0, 9, 0L, false);
        y.value(1, 1, 0L, true);
        y.run(2, Draws.seedThatTells("0/2", "1/2"), MOST);
        checks.due("the winner at", y.at(1), 2);
        checks.due("the run is over at", y.ticks(2), 10);
    }

    private void oneWorkerMovesATick() {
        ShareRuns x = Samples.ofMany(5);
        for (int workers = 1; workers <= 16; workers++) {
            x.run(workers, 3L, MOST);
            int sum = 0;
            for (int worker = 0; worker < workers; worker++) {
                sum += x.worked(worker);
            }
            checks.due("moves of " + workers + " workers", sum, x.ticks(2));
        }
    }

    // "r, the seed at first, becomes .." up to "have none from then on."

    private void ofMoves() {
        checks.sentence(4, "r, the seed at first, becomes r times 6364136223846793005 and"
                + " 1442695040888963407", this::movesOfSmallSeeds);
        checks.sentence(4, "(as 64 bits hold it)", this::movesThatWrapAround);
        checks.sentence(4, "of the WORKERS that can MOVE, in the order of their numbers",
                this::ableWorkersInOrder);
        checks.sentence(4, "r's upper 31 bits are, as a number", this::upperBitsAreANumber);
        checks.sentence(4, "modulo how many can", this::moduloHowManyCan);
        checks.sentence(4, "If it has no SHARE it takes the least that WAITS", this::takesTheLeast);
        checks.sentence(11, "and the TICK is the first one of its first TRY",
                this::takingIsTheFirstTick);
        checks.sentence(4, "If it has no SHARE", this::whoHasAShareTakesNone);
        checks.sentence(9, "A TRY that fails is followed by the next one, of the same WORKER.",
                this::sameWorkerTriesAgain);
        checks.sentence(7, "If a SHARE is done its WORKER has none", this::whoDidOneHasNone);
        checks.sentence(4, "if that SETTLES, all WORKERS with SHARES of greater numbers have none",
                this::settlingDropsAllBehind);
        checks.sentence(4, "if that SETTLES", this::othersDropNothing);
        checks.sentence(4, "with SHARES of greater numbers", this::settlingKeepsThoseAhead);
        checks.sentence(7, "from then on", this::whoWasDroppedMovesNoMore);
    }

    // The numbers below were told by another program: r's upper 31 bits, modulo 16.
    private void movesOfSmallSeeds() {
        ShareRuns x = new ShareRuns(16);
        dueFirstMoves(x, 0L, 15, 8, 1, 4, 13, 11);
        dueFirstMoves(x, 1L, 6, 9, 12, 6, 10, 3);
        dueFirstMoves(x, 123456789012345678L, 6, 1, 3, 0, 7, 15);
        dueFirstMoves(x, 0L, 15, 8, 1, 4, 13, 11);
    }

    private void movesThatWrapAround() {
        ShareRuns x = new ShareRuns(16);
        dueFirstMoves(x, -1L, 8, 7, 5, 2, 0, 3);
        dueFirstMoves(x, Long.MAX_VALUE, 8, 7, 5, 2, 0, 3);
        dueFirstMoves(x, Long.MIN_VALUE, 15, 8, 1, 4, 13, 11);
        long[] seeds = {Long.MIN_VALUE, Long.MIN_VALUE + 1, -2L, 2L, Long.MAX_VALUE - 1, Long.MAX_VALUE};
        for (long seed : seeds) {
            for (int workers = 1; workers <= 16; workers++) {
                dueMovesOfDraws(seed, workers);
            }
        }
    }

    // Each share takes one tick, so some share waits at every tick and all workers can move.
    private void dueFirstMoves(ShareRuns x, long seed, int... movers) {
        x.run(16, seed, MOST);
        for (int share = 0; share < movers.length; share++) {
            checks.due("seed " + seed + ", tick " + (share + 1), x.by(share), movers[share]);
        }
    }

    private void dueMovesOfDraws(long seed, int workers) {
        ShareRuns x = new ShareRuns(16);
        x.run(workers, seed, MOST);
        Draws draws = new Draws(seed);
        for (int share = 0; share < 16; share++) {
            checks.due("seed " + seed + ", " + workers + " workers, tick " + (share + 1),
                    x.by(share), draws.aheadOf(workers));
        }
    }

    private void ableWorkersInOrder() {
        ShareRuns x = new ShareRuns(3);
        for (int share = 0; share < 3; share++) {
            x.value(share, 2, 0L, false);
        }
        // 4, 0 and 2 take a share each, in this order; from then on 0, 2 and 4 can move: 2 is the
        // one with one ahead; of 0 and 4 it is 4; 0 is left.
        x.run(5, Draws.seedThatTells("4/5", "0/5", "2/5", "1/3", "1/2"), MOST);
        checks.due("tick 4", x.done(0), 2);
        checks.due("by 2", x.by(2), 2);
        checks.due("tick 5", x.done(1), 0);
        checks.due("by 4", x.by(0), 4);
        checks.due("tick 6", x.done(2), 1);
        checks.due("by 0", x.by(1), 0);
    }

    // Seed -1 tells 1574552488 and 1490332343, both above 2 to the 30th: r is below 0 as a long.
    private void upperBitsAreANumber() {
        for (int workers = 1; workers <= 16; workers++) {
            ShareRuns x = new ShareRuns(2);
            x.run(workers, -1L, MOST);
            checks.due("first of " + workers, x.by(0), 1574552488 % workers);
            checks.due("second of " + workers, x.by(1), 1490332343 % workers);
        }
    }

    // Seed 0 tells 167951807, 218396424, 1299921937 and so on.
    private void moduloHowManyCan() {
        for (int workers = 1; workers <= 16; workers++) {
            ShareRuns x = new ShareRuns(3);
            x.run(workers, 0L, MOST);
            checks.due("first of " + workers, x.by(0), 167951807 % workers);
            checks.due("second of " + workers, x.by(1), 218396424 % workers);
            checks.due("third of " + workers, x.by(2), 1299921937 % workers);
        }
        // Of three workers 2 and then 0 take a share, so that only these two can move at the third
        // tick. The number there is 4 modulo 6, so 0 modulo 2, but 1 modulo 3: worker 0 moves.
        ShareRuns x = new ShareRuns(2);
        x.value(0, 2, 0L, false);
        x.value(1, 2, 0L, false);
        x.run(3, Draws.seedThatTells("2/3", "0/3", "4/6"), MOST);
        checks.due("share 0, taken at tick 1", x.by(0), 2);
        checks.due("share 1, taken at tick 2", x.by(1), 0);
        checks.due("done at tick 3", x.done(0), 1);
    }

    private void takesTheLeast() {
        ShareRuns x = new ShareRuns(4);
        x.value(0, 3, 0L, false);
        x.run(3, Draws.seedThatTells("1/3", "2/3", "0/3", "2/3"), MOST);
        checks.due("first taken", x.by(0), 1);
        checks.due("second taken", x.by(1), 2);
        checks.due("third taken", x.by(2), 0);
        checks.due("fourth taken", x.by(3), 2);
        for (long seed = 0; seed < 20; seed++) {
            ShareRuns ones = new ShareRuns(16);
            ones.run(16, seed, MOST);
            for (int k = 0; k < 16; k++) {
                checks.due("seed " + seed + ", place " + k, ones.done(k), k);
            }
        }
    }

    private void takingIsTheFirstTick() {
        ShareRuns x = new ShareRuns(2);
        x.value(1, 2, 0L, false);
        x.run(1, 0L, MOST);
        checks.due("work 1 is done as it is taken", x.at(0), 1);
        checks.due("work 2 a tick later", x.at(1), 3);
        x.faults(0, 1);
        x.run(1, 0L, MOST);
        checks.due("its first try fails as it is taken", x.at(0), 2);
    }

    private void whoHasAShareTakesNone() {
        ShareRuns x = new ShareRuns(3);
        x.value(0, 3, 0L, false);
        // Share 1 waits all the while, but 0 has share 0 until that is done.
        x.run(2, Draws.seedThatTells("0/2", "0/2", "0/2", "1/2", "0/2"), MOST);
        checks.due("share 0 at", x.at(0), 3);
        checks.due("share 1 by", x.by(1), 1);
        checks.due("share 2 by", x.by(2), 0);
    }

    private void sameWorkerTriesAgain() {
        ShareRuns x = new ShareRuns(2);
        x.faults(0, 3);
        // 1's try of share 0 fails; 0 takes share 1, as share 0 doesn't wait; 1 tries again.
        x.run(2, Draws.seedThatTells("1/2", "0/2"), MOST);
        checks.due("share 0 by", x.by(0), 1);
        checks.due("share 1 by", x.by(1), 0);
        checks.due("share 1 at", x.at(1), 2);
        checks.due("share 0 at", x.at(0), 5);
        // 1 has share 0 all the while: it takes share 1 only when share 0 is done.
        x.run(2, Draws.seedThatTells("1/2", "1/2", "1/2", "1/2", "1/2"), MOST);
        checks.due("alone, share 0 at", x.at(0), 4);
        checks.due("alone, share 1 at", x.at(1), 5);
        ShareRuns one = new ShareRuns(1);
        one.value(0, 5, 0L, false);
        one.faults(0, 3);
        for (long seed = 0; seed < 20; seed++) {
            one.run(16, seed, MOST);
            checks.due("all tries are of one worker, seed " + seed, one.worked(one.by(0)), 20);
        }
    }

    private void whoDidOneHasNone() {
        ShareRuns x = new ShareRuns(2);
        x.value(1, 3, 0L, false);
        // 0 does share 0; 1 takes share 1: 0 has none and can't move.
        x.run(2, Draws.seedThatTells("0/2", "1/2"), MOST);
        checks.due("worker 0", x.worked(0), 1);
        checks.due("worker 1", x.worked(1), 3);
        // 0 does share 0 and takes share 1.
        x.run(2, Draws.seedThatTells("0/2", "0/2"), MOST);
        checks.due("worker 0 does both", x.worked(0), 4);
        checks.due("share 1 by", x.by(1), 0);
    }

    private void settlingDropsAllBehind() {
        ShareRuns x = new ShareRuns(4);
        x.value(0, 2, 0L, true);
        for (int share = 1; share < 4; share++) {
            x.value(share, 50, 0L, share == 2);
        }
        // Each of four takes a share; 3, who has share 0, does it: all others drop theirs.
        x.run(4, Draws.seedThatTells("3/4", "2/4", "1/4", "0/4", "3/4"), MOST);
        checks.due("over with the winner", x.ticks(2), 5);
        checks.due("winner at", x.at(0), 5);
        answers.dueIndex("no other is done", () -> x.done(1));
        for (int worker = 0; worker < 3; worker++) {
            checks.due("moves of worker " + worker, x.worked(worker), 1);
        }
    }

    private void othersDropNothing() {
        ShareRuns x = new ShareRuns(3);
        x.value(1, 5, 0L, false);
        x.value(2, 5, 0L, true);
        for (long seed = 0; seed < 20; seed++) {
            checks.due("share 2 wins, seed " + seed, x.run(3, seed, MOST), 2);
            checks.due("share 1 is done too", x.at(1) > 0, true);
            checks.due("share 2 is done too", x.at(2) > 0, true);
            checks.due("no tick is lost", x.ticks(2), 11);
        }
    }

    private void settlingKeepsThoseAhead() {
        ShareRuns x = new ShareRuns(3);
        x.value(0, 3, 0L, false);
        x.value(1, 2, 0L, true);
        x.value(2, 9, 0L, false);
        // Each takes a share; 1 does share 1, which settles; 2 drops share 2, 0 keeps share 0.
        x.run(3, Draws.seedThatTells("0/3", "1/3", "2/3", "1/3"), MOST);
        checks.due("share 1 at", x.at(1), 4);
        checks.due("share 0 at", x.at(0), 6);
        checks.due("share 0 by", x.by(0), 0);
        checks.due("all ticks", x.ticks(2), 6);
        // Settled one behind the other: 2, then 1, then 0, who wins.
        ShareRuns y = new ShareRuns(3);
        y.value(0, 4, 0L, true);
        y.value(1, 3, 0L, true);
        y.value(2, 2, 0L, true);
        y.run(3, Draws.seedThatTells("0/3", "1/3", "2/3", "2/3", "1/2", "1/2"), MOST);
        checks.due("first done", y.done(0), 2);
        checks.due("second done", y.done(1), 1);
        checks.due("third done", y.done(2), 0);
        checks.due("winner at", y.at(0), 9);
    }

    private void whoWasDroppedMovesNoMore() {
        ShareRuns x = new ShareRuns(4);
        x.value(0, 3, 0L, false);
        x.value(1, 3, 0L, false);
        x.value(2, 2, 0L, true);
        x.value(3, 9, 0L, false);
        // 0 has share 3 and drops it at the fifth tick, when 1 has done share 2: 2 and 3 can move.
        x.run(4, Draws.seedThatTells("2/4", "3/4", "1/4", "0/4", "1/4", "0/2", "1/2", "1/2"), MOST);
        checks.due("worker 0", x.worked(0), 1);
        checks.due("worker 1", x.worked(1), 2);
        checks.due("share 1, of worker 3, at", x.at(1), 8);
        checks.due("share 0, of worker 2, at", x.at(0), 9);
    }

    // "The WINNER is .. the others are LOST."

    private void ofWinners() {
        checks.sentence(4, "The WINNER is the least SHARE that SETTLES", this::leastSettlingWins);
        checks.sentence(4, "if there is one", this::thereMayBeNoWinner);
        checks.sentence(5, "the ANSWER is its VALUE", this::answerIsTheWinnersValue);
        checks.sentence(5, "without one the sum of all VALUES", this::answerIsTheSum);
        checks.sentence(5, "(as 64 bits hold it)", this::sumWrapsAround);
        checks.sentence(6, "COUNTED are all TICKS for SHARES up to the WINNER",
                this::countedUpToTheWinner);
        checks.sentence(6, "(all, if there is none)", this::allCountWithoutAWinner);
        checks.sentence(6, "the others are LOST", this::othersAreLost);
    }

    private void leastSettlingWins() {
        ShareRuns x = new ShareRuns(16);
        x.value(15, 1, 0L, true);
        checks.due("the last alone", x.run(1, 0L, MOST), 15);
        x.value(7, 100, 0L, true);
        x.faults(7, 3);
        for (int workers = 1; workers <= 16; workers++) {
            checks.due("7 ahead of 15, " + workers + " workers", x.run(workers, 0L, MOST), 7);
        }
        checks.due("though 15 was done", x.done(14), 15);
        x.value(0, 1, 0L, true);
        checks.due("0 ahead of all", x.run(16, 0L, MOST), 0);
    }

    private void thereMayBeNoWinner() {
        ShareRuns x = new ShareRuns(2);
        x.value(1, 1, 0L, true);
        x.run(1, 0L, MOST);
        x.value(1, 1, 0L, false);
        checks.due("none settles any more", x.run(1, 0L, MOST), -1);
    }

    private void answerIsTheWinnersValue() {
        ShareRuns x = new ShareRuns(3);
        x.value(0, 1, 5L, false);
        x.value(1, 100, -7L, true);
        x.value(2, 1, 9L, true);
        int doneAhead = 0;
        for (long seed = 0; seed < 20; seed++) {
            x.run(3, seed, MOST);
            checks.due("seed " + seed, x.answer(), -7L);
            doneAhead += x.done(1) == 2 ? 1 : 0;
        }
        checks.due("share 2 was done ahead of share 1", doneAhead > 0, true);
        x.value(1, 100, 0L, true);
        x.run(3, 0L, MOST);
        checks.due("a winner of value 0", x.answer(), 0L);
    }

    private void answerIsTheSum() {
        ShareRuns x = new ShareRuns(16);
        long sum = 0;
        for (int share = 0; share < 16; share++) {
            long v = (1L << (share * 3)) * (share % 3 == 0 ? -1 : 1);
            x.value(share, 1 + share, v, false);
            sum += v;
        }
        for (int workers = 1; workers <= 16; workers++) {
            x.run(workers, 5L, MOST);
            checks.due(workers + " workers", x.answer(), sum);
        }
    }

    private void sumWrapsAround() {
        ShareRuns x = new ShareRuns(2);
        dueSum(x, Long.MAX_VALUE, 1L, Long.MIN_VALUE);
        dueSum(x, Long.MIN_VALUE, -1L, Long.MAX_VALUE);
        dueSum(x, Long.MIN_VALUE, Long.MIN_VALUE, 0L);
        dueSum(x, Long.MAX_VALUE, Long.MAX_VALUE, -2L);
        dueSum(x, Long.MAX_VALUE, Long.MIN_VALUE, -1L);
        dueSum(x, Long.MAX_VALUE, 0L, Long.MAX_VALUE);
    }

    private void dueSum(ShareRuns x, long first, long second, long sum) {
        x.value(0, 1, first, false);
        x.value(1, 1, second, false);
        x.run(1, 0L, MOST);
        checks.due(first + " and " + second, x.answer(), sum);
    }

    private void countedUpToTheWinner() {
        ShareRuns x = Samples.ofMany(3);
        for (int workers = 1; workers <= 16; workers++) {
            for (long seed = 0; seed < 5; seed++) {
                x.run(workers, seed, MOST);
                checks.due(workers + " workers, seed " + seed, x.ticks(0), Samples.neededUpTo(3));
            }
        }
        ShareRuns first = Samples.ofMany(0);
        first.run(5, 0L, MOST);
        checks.due("share 0 wins", first.ticks(0), Samples.neededUpTo(0));
    }

    private void allCountWithoutAWinner() {
        ShareRuns x = Samples.ofMany(-1);
        for (int workers = 1; workers <= 16; workers++) {
            x.run(workers, 1L, MOST);
            checks.due("counted, " + workers + " workers", x.ticks(0), Samples.neededUpTo(5));
            checks.due("lost, " + workers + " workers", x.ticks(1), 0);
        }
        ShareRuns last = Samples.ofMany(5);
        last.run(6, 1L, MOST);
        checks.due("all count if the last wins", last.ticks(1), 0);
    }

    private void othersAreLost() {
        ShareRuns x = new ShareRuns(3);
        x.value(0, 4, 0L, true);
        x.value(1, 2, 0L, false);
        x.value(2, 9, 0L, false);
        // 0 takes share 0; 1 does share 1 and takes share 2; 0 does share 0, share 2 is dropped.
        x.run(2, Draws.seedThatTells("0/2", "1/2", "1/2", "1/2", "0/2", "1/2", "0/2", "0/2"), MOST);
        checks.due("of share 1, done, and of share 2, dropped", x.ticks(1), 4);
        checks.due("counted", x.ticks(0), 4);
        checks.due("all", x.ticks(2), 8);
        x.run(1, 0L, MOST);
        checks.due("one worker loses none", x.ticks(1), 0);
    }

    // "A RUN that isn't over at its limit .." and "Of the latest RUN .."

    private void ofWhatIsKnown() {
        checks.sentence(4, "A RUN that isn't over at its limit of TICKS is STOPPED",
                this::stoppedAtItsLimit);
        checks.sentence(4, "nothing is KNOWN of it", this::nothingIsKnownOfAStoppedRun);
        checks.sentence(4, "Of the latest RUN .. all is KNOWN", this::latestRunIsKnown);
        checks.sentence(4, "Of the latest RUN, if it wasn't STOPPED", this::stoppedRunIsTheLatest);
        checks.sentence(2, "till some SHARE is another one", this::knownTillAValueIsAnother);
        checks.sentence(3, "till some SHARE is another one", this::knownTillFaultsAreOthers);
    }

    private void stoppedAtItsLimit() {
        ShareRuns x = new ShareRuns(4);
        x.value(0, 5, 0L, false);
        x.value(1, 3, 0L, true);
        x.faults(1, 2);
        for (int limit = 0; limit <= 15; limit++) {
            checks.due("limit " + limit, x.run(1, 0L, limit), limit < 14 ? -2 : 1);
        }
        // The winner is done with tick 2, share 0 with tick 6: the run is over with that one.
        ShareRuns y = new ShareRuns(2);
        y.value(0, 5, 0L, false);
        y.value(1, 1, 0L, true);
        long seed = Draws.seedThatTells("0/2", "1/2");
        checks.due("a limit behind the winner", y.run(2, seed, 2), -2);
        checks.due("a tick too few", y.run(2, seed, 5), -2);
        checks.due("just enough", y.run(2, seed, 6), 1);
    }

    private void nothingIsKnownOfAStoppedRun() {
        ShareRuns x = new ShareRuns(2);
        x.value(0, 5, 0L, false);
        x.value(1, 1, 0L, true);
        for (int limit = 0; limit <= 5; limit++) {
            x.run(2, Draws.seedThatTells("0/2", "1/2"), limit);
            answers.dueUnknown("limit " + limit, x);
        }
    }

    private void latestRunIsKnown() {
        ShareRuns x = Samples.ofMany(3);
        x.run(3, 1L, MOST);
        x.run(5, 2L, MOST);
        ShareRuns fresh = Samples.ofMany(3);
        fresh.run(5, 2L, MOST);
        answers.dueKnown("behind two runs", x);
        checks.due("of the second one", Answers.all(x), Answers.all(fresh));
        x.run(1, 2L, MOST);
        answers.dueIndex("a run of fewer workers has no more of them", () -> x.worked(1));
        checks.due("and fewer places", x.done(3), 3);
        answers.dueIndex("none behind the winner", () -> x.done(4));
    }

    private void stoppedRunIsTheLatest() {
        ShareRuns x = Samples.ofMany(3);
        x.run(3, 1L, MOST);
        answers.dueKnown("a run", x);
        x.run(3, 1L, 1);
        answers.dueUnknown("a stopped run behind it", x);
        x.run(3, 1L, MOST);
        answers.dueKnown("a run behind that", x);
    }

    private void knownTillAValueIsAnother() {
        ShareRuns x = new ShareRuns(2);
        x.run(1, 0L, MOST);
        x.value(1, 1, 0L, false);
        answers.dueKnown("none is another", x);
        x.value(1, 2, 0L, false);
        answers.dueUnknown("another", x);
        x.value(1, 1, 0L, false);
        answers.dueUnknown("as it was, but another again", x);
        x.run(1, 0L, MOST);
        answers.dueKnown("run again", x);
    }

    private void knownTillFaultsAreOthers() {
        ShareRuns x = new ShareRuns(2);
        x.run(1, 0L, MOST);
        x.faults(1, 0);
        answers.dueKnown("none is another", x);
        x.faults(1, 3);
        answers.dueUnknown("another", x);
        x.faults(1, 0);
        answers.dueUnknown("as it was, but another again", x);
        x.run(1, 0L, MOST);
        answers.dueKnown("run again", x);
    }

    // Objects that several of the tests above use

    private static ShareRuns ofOneShare(int work, int faults) {
        ShareRuns x = new ShareRuns(1);
        x.value(0, work, 0L, false);
        x.faults(0, faults);
        x.run(1, 0L, MOST);
        return x;
    }
}
