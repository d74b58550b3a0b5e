/**
 * The sentences of the document's sections "Promise 1" to "Promise 12" and "What it is", each by a
 * test of its own that bears the promise's number: ordinary inputs, edges, wrong inputs.
 */
public final class PromisesTest {
    private static final int MIN = Answers.MIN;
    private static final int MAX = Answers.MAX;
    private static final int MOST = 10000;

    private final Checks checks = new Checks();
    private final Answers answers = new Answers(checks);

    public static void main(String[] args) {
        PromisesTest test = new PromisesTest();
        test.ofNewObjects();
        test.ofValue();
        test.ofFaults();
        test.ofRun();
        test.ofAnswer();
        test.ofTicks();
        test.ofWorked();
        test.ofDone();
        test.ofBy();
        test.ofFailed();
        test.ofAt();
        test.ofCount();
        test.ofAllRuns();
        test.checks.end("PromisesTest");
    }

    // Promise 1

    private void ofNewObjects() {
        checks.sentence(1, "So many SHARES", () -> dueShares(1, 1, 2, 2, 3, 3, 15, 15, 16, 16));
        checks.sentence(1, "1 if it is below 1", () -> dueShares(0, 1, -1, 1, -16, 1, MIN, 1));
        checks.sentence(1, "16 if it is above 16", () -> dueShares(17, 16, 18, 16, MAX, 16));
        checks.sentence(1, "Nothing is KNOWN.", this::nothingIsKnownAtFirst);
    }

    /** Pairs of what is asked for and how many there are then. */
    private void dueShares(int... pairs) {
        for (int i = 0; i < pairs.length; i += 2) {
            ShareRuns x = new ShareRuns(pairs[i]);
            int count = pairs[i + 1];
            checks.due("count, asked for " + pairs[i], x.count(), count);
            x.run(1, 0L, MOST);
            checks.due("shares done, asked for " + pairs[i], x.ticks(2), count);
            checks.due("the last one, asked for " + pairs[i], x.at(count - 1), count);
            answers.dueIndex("one behind it", () -> x.at(count));
        }
    }

    private void nothingIsKnownAtFirst() {
        for (int shares : new int[] {MIN, 0, 1, 4, 16, MAX}) {
            ShareRuns x = new ShareRuns(shares);
            answers.dueUnknown("new, " + shares, x);
            x.value(0, 1, 0L, false);
            x.faults(0, 0);
            answers.dueUnknown("new and left as it is, " + shares, x);
        }
    }

    // Promise 2

    private void ofValue() {
        checks.sentence(2, "A SHARE's WORK, VALUE, and whether it SETTLES", this::valueIsTaken);
        checks.sentence(2, "whether one of these is another one", this::valueTellsAnother);
        checks.sentence(2, "whether one of these is another one (none is)", this::valueTellsNoOther);
        checks.sentence(2, "A SHARE's", this::valueIsOfOneShare);
        checks.sentence(2, "if so nothing is KNOWN", this::anotherValueForgets);
        checks.sentence(2, "if so", this::noOtherValueKeepsAll);
        checks.sentence(2, "IllegalArgumentException: the WORK can't be so.", this::workIsRefused);
    }

    private void valueIsTaken() {
        ShareRuns x = new ShareRuns(2);
        x.value(1, 40, -3L, true);
        checks.due("settles", x.run(1, 0L, MOST), 1);
        checks.due("value", x.answer(), -3L);
        checks.due("work", x.at(1), 41);
        x.value(1, 2, 6L, false);
        checks.due("settles no more", x.run(1, 0L, MOST), -1);
        checks.due("another value", x.answer(), 6L);
        checks.due("another work", x.at(1), 3);
    }

    private void valueTellsAnother() {
        ShareRuns x = new ShareRuns(3);
        checks.due("work alone, the most", x.value(1, 100, 0L, false), true);
        checks.due("work alone, the least", x.value(1, 1, 0L, false), true);
        checks.due("value alone, the lowest bit", x.value(1, 1, 1L, false), true);
        checks.due("value alone, bit 32", x.value(1, 1, 1L + (1L << 32), false), true);
        checks.due("value alone, the topmost bit", x.value(1, 1, 1L + (1L << 32) + Long.MIN_VALUE, false),
                true);
        checks.due("value alone, back to 0", x.value(1, 1, 0L, false), true);
        checks.due("settles alone", x.value(1, 1, 0L, true), true);
        checks.due("settles alone, back", x.value(1, 1, 0L, false), true);
        checks.due("all of them", x.value(1, 50, 5L, true), true);
        checks.due("all of them, back", x.value(1, 1, 0L, false), true);
    }

    private void valueTellsNoOther() {
        ShareRuns x = new ShareRuns(16);
        for (int share = 0; share < 16; share++) {
            checks.due("a new share " + share, x.value(share, 1, 0L, false), false);
            x.value(share, 100, Long.MIN_VALUE, true);
            checks.due("the same again " + share, x.value(share, 100, Long.MIN_VALUE, true), false);
        }
        x.run(1, 0L, MOST);
        checks.due("the same behind a run", x.value(0, 100, Long.MIN_VALUE, true), false);
    }

    private void valueIsOfOneShare() {
        ShareRuns x = new ShareRuns(16);
        for (int changed = 0; changed < 16; changed++) {
            x.value(changed, 9, 9L, true);
            for (int share = 0; share < 16; share++) {
                if (share != changed) {
                    checks.due("share " + share + " when " + changed + " is another",
                            x.value(share, 1, 0L, false), false);
                }
            }
            checks.due("its faults stay", x.faults(changed, 0), false);
            x.value(changed, 1, 0L, false);
        }
    }

    private void anotherValueForgets() {
        ShareRuns x = new ShareRuns(3);
        x.run(2, 0L, MOST);
        x.value(2, 2, 0L, false);
        answers.dueUnknown("another work", x);
        x.run(2, 0L, MOST);
        x.value(2, 2, 1L, false);
        answers.dueUnknown("another value", x);
        x.run(2, 0L, MOST);
        x.value(2, 2, 1L, true);
        answers.dueUnknown("it settles now", x);
        // Share 2 is behind the winner: all would be answered alike, but it is another one.
        x.value(0, 1, 0L, true);
        x.run(1, 0L, MOST);
        x.value(2, 3, 1L, true);
        answers.dueUnknown("another work behind the winner", x);
    }

    private void noOtherValueKeepsAll() {
        ShareRuns x = Samples.ofMany(3);
        x.run(2, 0L, MOST);
        String before = Answers.all(x);
        checks.due("the same", x.value(0, 12, 0L, false), false);
        checks.due("what is known", Answers.all(x), before);
    }

    private void workIsRefused() {
        ShareRuns x = new ShareRuns(2);
        for (int work : new int[] {MIN, -100, -1, 0, 101, 102, 257, MAX}) {
            checks.dueThrow("work " + work, Checks.ARGUMENT,
                    () -> Checks.asLong(x.value(1, work, 0L, false)));
            checks.dueThrow("work " + work + " of one that settles", Checks.ARGUMENT,
                    () -> Checks.asLong(x.value(0, work, 5L, true)));
        }
        checks.due("the least work is fine", x.value(1, 1, 1L, false), true);
        checks.due("the most work is fine", x.value(1, 100, 1L, false), true);
    }

    // Promise 3

    private void ofFaults() {
        checks.sentence(3, "A SHARE's FAULTS", this::faultsAreTaken);
        checks.sentence(3, "likewise (whether they are others)", this::faultsTellOthers);
        checks.sentence(3, "A SHARE's", this::faultsAreOfOneShare);
        checks.sentence(3, "likewise (if so nothing is KNOWN)", this::otherFaultsForget);
        checks.sentence(3, "likewise (if so)", this::noOtherFaultsKeepAll);
        checks.sentence(3, "IllegalArgumentException: it can't be so.", this::faultsAreRefused);
    }

    private void faultsAreTaken() {
        ShareRuns x = new ShareRuns(2);
        x.value(1, 5, 0L, false);
        for (int faults : new int[] {3, 0, 2, 1}) {
            x.faults(1, faults);
            x.run(1, 0L, MOST);
            checks.due("failed", x.failed(1), faults);
            checks.due("at", x.at(1), 1 + 5 * (faults + 1));
        }
    }

    private void faultsTellOthers() {
        ShareRuns x = new ShareRuns(2);
        checks.due("0 at first", x.faults(1, 0), false);
        for (int faults : new int[] {1, 2, 3, 0, 3}) {
            checks.due("now " + faults, x.faults(1, faults), true);
            checks.due("again " + faults, x.faults(1, faults), false);
        }
        x.run(1, 0L, MOST);
        checks.due("the same behind a run", x.faults(1, 3), false);
    }

    private void faultsAreOfOneShare() {
        ShareRuns x = new ShareRuns(16);
        for (int changed = 0; changed < 16; changed++) {
            x.faults(changed, 2);
            for (int share = 0; share < 16; share++) {
                if (share != changed) {
                    checks.due("share " + share + " when " + changed + " is another",
                            x.faults(share, 0), false);
                }
            }
            checks.due("the rest of it stays", x.value(changed, 1, 0L, false), false);
            x.faults(changed, 0);
        }
    }

    private void otherFaultsForget() {
        ShareRuns x = new ShareRuns(3);
        x.run(2, 0L, MOST);
        x.faults(2, 1);
        answers.dueUnknown("more", x);
        x.run(2, 0L, MOST);
        x.faults(2, 0);
        answers.dueUnknown("fewer", x);
        x.value(0, 1, 0L, true);
        x.run(1, 0L, MOST);
        x.faults(2, 3);
        answers.dueUnknown("behind the winner", x);
    }

    private void noOtherFaultsKeepAll() {
        ShareRuns x = Samples.ofMany(3);
        x.run(2, 0L, MOST);
        String before = Answers.all(x);
        checks.due("the same", x.faults(3, 3), false);
        checks.due("what is known", Answers.all(x), before);
    }

    private void faultsAreRefused() {
        ShareRuns x = new ShareRuns(2);
        for (int faults : new int[] {MIN, -2, -1, 4, 5, 256, MAX}) {
            checks.dueThrow("faults " + faults, Checks.ARGUMENT,
                    () -> Checks.asLong(x.faults(1, faults)));
        }
        checks.due("the most are fine", x.faults(1, 3), true);
        checks.due("none are fine", x.faults(1, 0), true);
    }

    // Promise 4

    private void ofRun() {
        checks.sentence(4, "A RUN with so many WORKERS", this::runHasSoManyWorkers);
        checks.sentence(4, "the WINNER", this::runTellsTheWinner);
        checks.sentence(4, "-1 without one", this::runTellsNoWinner);
        checks.sentence(4, "-2 if it is STOPPED", this::runTellsThatItIsStopped);
        checks.sentence(4, "A RUN", this::runBeginsAnew);
        checks.sentence(4, "IllegalArgumentException: WORKERS aren't 1 .. 16", this::workersAreRefused);
        checks.sentence(4, "or the limit is below 0", this::limitBelowZeroIsRefused);
        checks.sentence(4, "or above 10000", this::limitAboveTheMostIsRefused);
    }

    private void runHasSoManyWorkers() {
        ShareRuns x = new ShareRuns(16);
        for (int share = 0; share < 16; share++) {
            x.value(share, 30, 0L, false);
        }
        for (int workers = 1; workers <= 16; workers++) {
            x.run(workers, 0L, MOST);
            for (int worker = 0; worker < workers; worker++) {
                checks.due("worker " + worker + " of " + workers + " moves", x.worked(worker) > 0, true);
            }
            int behind = workers;
            answers.dueIndex("none behind the last of " + workers, () -> x.worked(behind));
        }
    }

    private void runTellsTheWinner() {
        for (int winner = 0; winner < 16; winner++) {
            ShareRuns x = new ShareRuns(16);
            for (int share = winner; share < 16; share++) {
                x.value(share, 1, 0L, true);
            }
            x.value(winner, 100, 0L, true);
            checks.due("one worker", x.run(1, 0L, MOST), winner);
            checks.due("three workers", x.run(3, -1L, MOST), winner);
            checks.due("sixteen workers", x.run(16, Long.MIN_VALUE, MOST), winner);
        }
    }

    private void runTellsNoWinner() {
        checks.due("one share", new ShareRuns(1).run(16, Long.MAX_VALUE, 1), -1);
        checks.due("sixteen shares", new ShareRuns(16).run(1, 0L, 16), -1);
        checks.due("some of each", Samples.ofMany(-1).run(4, 0L, MOST), -1);
    }

    private void runTellsThatItIsStopped() {
        ShareRuns x = new ShareRuns(16);
        checks.due("limit 0", x.run(1, 0L, 0), -2);
        checks.due("a tick too few", x.run(5, 0L, 15), -2);
        checks.due("just enough", x.run(5, 0L, 16), -1);
        for (int share = 0; share < 16; share++) {
            x.value(share, 100, 0L, false);
            x.faults(share, 3);
        }
        checks.due("the longest, a tick too few", x.run(7, 0L, 6399), -2);
        checks.due("the longest", x.run(7, 0L, 6400), -1);
        x.value(0, 100, 0L, true);
        checks.due("a winner, a tick too few", x.run(1, 0L, 399), -2);
        checks.due("a winner", x.run(1, 0L, 400), 0);
    }

    private void runBeginsAnew() {
        ShareRuns x = Samples.ofMany(2);
        x.run(4, 7L, MOST);
        String before = Answers.all(x);
        x.run(16, 3L, 4);
        x.run(1, 7L, MOST);
        checks.due("another run, other answers", Answers.all(x).equals(before), false);
        x.run(4, 7L, MOST);
        checks.due("the same run, the same answers", Answers.all(x), before);
        ShareRuns fresh = Samples.ofMany(2);
        fresh.run(4, 7L, MOST);
        checks.due("the same run of a new object", Answers.all(fresh), before);
    }

    private void workersAreRefused() {
        ShareRuns x = new ShareRuns(3);
        for (int workers : new int[] {MIN, -1, 0, 17, 18, 257, MAX}) {
            for (int limit : new int[] {-1, 0, MOST, MOST + 1}) {
                checks.dueThrow("workers " + workers + ", limit " + limit, Checks.ARGUMENT,
                        () -> x.run(workers, 0L, limit));
            }
        }
        checks.due("one is fine", x.run(1, 0L, MOST), -1);
        checks.due("sixteen are fine", x.run(16, 0L, MOST), -1);
    }

    private void limitBelowZeroIsRefused() {
        ShareRuns x = new ShareRuns(3);
        for (int limit : new int[] {MIN, -MOST, -2, -1}) {
            checks.dueThrow("limit " + limit, Checks.ARGUMENT, () -> x.run(1, 0L, limit));
        }
        checks.due("0 is fine, though too few", x.run(1, 0L, 0), -2);
    }

    private void limitAboveTheMostIsRefused() {
        ShareRuns x = new ShareRuns(3);
        for (int limit : new int[] {MOST + 1, MOST + 2, 65536, MAX}) {
            checks.dueThrow("limit " + limit, Checks.ARGUMENT, () -> x.run(1, 0L, limit));
        }
        checks.due("10000 is fine", x.run(1, 0L, 10000), -1);
        checks.due("9999 is fine", x.run(1, 0L, 9999), -1);
    }

    // Promise 5

    private void ofAnswer() {
        checks.sentence(5, "The ANSWER.", this::answerIsTold);
    }

    private void answerIsTold() {
        ShareRuns x = new ShareRuns(3);
        x.value(0, 9, 10L, false);
        x.value(1, 9, 20L, false);
        x.value(2, 1, 30L, false);
        for (long seed = 0; seed < 20; seed++) {
            x.run(3, seed, MOST);
            checks.due("the sum, seed " + seed, x.answer(), 60L);
            checks.due("and again", x.answer(), 60L);
        }
        x.value(1, 9, 20L, true);
        for (long seed = 0; seed < 20; seed++) {
            x.run(3, seed, MOST);
            checks.due("the winner's, seed " + seed, x.answer(), 20L);
        }
    }

    // Promise 6

    private void ofTicks() {
        checks.sentence(6, "How many TICKS what 0: were COUNTED", () -> dueTicks(0, 400, 400, 402));
        checks.sentence(6, "1: were LOST", () -> dueTicks(1, 0, 2, 0));
        checks.sentence(6, "2: there were", () -> dueTicks(2, 400, 402, 402));
        checks.sentence(6, "-1 for another what", this::anotherWhat);
        checks.sentence(6, "-1 for another what (but nothing is KNOWN)", this::anotherWhatOfNothing);
    }

    private void dueTicks(int what, int ofOneWorker, int ofThree, int withoutAWinner) {
        ShareRuns x = new ShareRuns(3);
        x.value(0, 100, 0L, true);
        x.faults(0, 3);
        x.run(1, 0L, MOST);
        checks.due("one worker", x.ticks(what), ofOneWorker);
        x.run(3, 0L, MOST);
        checks.due("three, two of whom do one ahead of the winner", x.ticks(what), ofThree);
        x.value(0, 100, 0L, false);
        x.run(3, 0L, MOST);
        checks.due("without a winner", x.ticks(what), withoutAWinner);
    }

    private void anotherWhat() {
        ShareRuns x = Samples.ofMany(3);
        x.run(4, 0L, MOST);
        for (int what : new int[] {MIN, -2, -1, 3, 4, 256, MAX}) {
            checks.due("what " + what, x.ticks(what), -1);
        }
    }

    private void anotherWhatOfNothing() {
        ShareRuns x = new ShareRuns(2);
        answers.dueStates("new", x::ticks, MIN, -1, 3, MAX);
        x.run(1, 0L, 1);
        answers.dueStates("stopped", x::ticks, MIN, -1, 3, MAX);
    }

    // Promise 7

    private void ofWorked() {
        checks.sentence(7, "How many TICKS a WORKER MOVED.", this::workedTellsMoves);
        checks.sentence(7, "How many TICKS a WORKER MOVED. (none)", this::workedTellsNone);
    }

    private void workedTellsMoves() {
        ShareRuns x = new ShareRuns(2);
        x.value(0, 3, 0L, true);
        x.value(1, 9, 0L, false);
        // Worker 1's ticks are lost, but it moved.
        x.run(2, Draws.seedThatTells("0/2", "1/2", "1/2", "0/2", "1/2", "0/2"), MOST);
        checks.due("who did the winner", x.worked(0), 3);
        checks.due("who was dropped", x.worked(1), 3);
        x.faults(0, 3);
        x.run(1, 0L, MOST);
        checks.due("tries that fail are moves", x.worked(0), 12);
    }

    private void workedTellsNone() {
        ShareRuns x = new ShareRuns(1);
        x.value(0, 10, 0L, false);
        for (long seed = 0; seed < 20; seed++) {
            x.run(4, seed, MOST);
            for (int worker = 0; worker < 4; worker++) {
                checks.due("seed " + seed + ", worker " + worker, x.worked(worker),
                        worker == x.by(0) ? 10 : 0);
            }
        }
    }

    // Promise 8

    private void ofDone() {
        checks.sentence(8, "The k-th SHARE that was done.", this::doneTellsTheOrder);
        checks.sentence(8, "that was done", this::whatWasDroppedHasNoPlace);
        checks.sentence(8, "(Those behind the WINNER count, if they were done ahead of it.)",
                this::thoseBehindTheWinnerHaveAPlace);
    }

    private void doneTellsTheOrder() {
        ShareRuns x = new ShareRuns(3);
        x.value(0, 3, 0L, false);
        x.value(1, 2, 0L, false);
        x.run(3, Draws.seedThatTells("0/3", "1/3", "2/3", "1/2"), MOST);
        checks.due("first", x.done(0), 2);
        checks.due("second", x.done(1), 1);
        checks.due("third", x.done(2), 0);
        ShareRuns many = Samples.ofMany(-1);
        many.run(6, 0L, MOST);
        for (int k = 1; k < 6; k++) {
            checks.due("later than the one ahead, place " + k,
                    many.at(many.done(k)) > many.at(many.done(k - 1)), true);
        }
    }

    private void whatWasDroppedHasNoPlace() {
        ShareRuns x = new ShareRuns(4);
        x.value(0, 2, 0L, true);
        x.value(1, 50, 0L, false);
        x.run(2, Draws.seedThatTells("0/2", "1/2", "0/2"), MOST);
        checks.due("the winner alone", x.done(0), 0);
        answers.dueIndexes("no other place", x::done, 1, 2, 3, 4);
    }

    private void thoseBehindTheWinnerHaveAPlace() {
        ShareRuns x = new ShareRuns(4);
        x.value(0, 2, 0L, true);
        x.value(3, 50, 0L, false);
        x.run(2, Draws.seedThatTells("0/2", "1/2", "1/2", "1/2", "0/2"), MOST);
        checks.due("ahead of the winner", x.done(0), 1);
        checks.due("the next one", x.done(1), 2);
        checks.due("the winner", x.done(2), 0);
        answers.dueIndexes("share 3 was dropped", x::done, 3);
    }

    // Promise 9

    private void ofBy() {
        checks.sentence(9, "The WORKER that did a SHARE", this::byTellsWhoDidIt);
        checks.sentence(9, "-1 if it wasn't done", this::byOfWhatWasNotDone);
        checks.sentence(9, "or is behind the WINNER", this::byBehindTheWinner);
    }

    private void byTellsWhoDidIt() {
        ShareRuns x = new ShareRuns(3);
        x.value(0, 2, 0L, false);
        x.value(2, 1, 0L, true);
        x.run(16, Draws.seedThatTells("15/16", "0/16", "7/16"), MOST);
        checks.due("share 0", x.by(0), 15);
        checks.due("share 1", x.by(1), 0);
        checks.due("the winner", x.by(2), 7);
    }

    private void byOfWhatWasNotDone() {
        ShareRuns x = winnerAloneIsDone();
        checks.due("the winner", x.by(0), 0);
        checks.due("begun and dropped", x.by(1), -1);
        checks.due("never begun", x.by(2), -1);
    }

    private void byBehindTheWinner() {
        ShareRuns x = allBehindTheWinnerAreDone();
        checks.due("the winner", x.by(1), 1);
        checks.due("ahead of the winner", x.by(0), 0);
        checks.due("done behind the winner", x.by(2), -1);
        checks.due("settled behind the winner", x.by(3), -1);
    }

    // Promise 10

    private void ofFailed() {
        checks.sentence(10, "How many TRIES of a SHARE failed", this::failedTellsTries);
        checks.sentence(10, "0 if it is behind the WINNER", this::failedBehindTheWinner);
    }

    private void failedTellsTries() {
        ShareRuns x = new ShareRuns(4);
        for (int share = 0; share < 4; share++) {
            x.value(share, 3, 0L, false);
            x.faults(share, share);
        }
        for (int workers = 1; workers <= 16; workers++) {
            x.run(workers, 0L, MOST);
            for (int share = 0; share < 4; share++) {
                checks.due("share " + share + ", " + workers + " workers", x.failed(share), share);
            }
        }
        x.value(2, 3, 0L, true);
        x.run(4, 0L, MOST);
        checks.due("the winner", x.failed(2), 2);
        checks.due("ahead of the winner", x.failed(1), 1);
    }

    private void failedBehindTheWinner() {
        ShareRuns x = allBehindTheWinnerAreDone();
        checks.due("the winner", x.failed(1), 3);
        checks.due("done behind the winner", x.failed(2), 0);
        checks.due("settled behind the winner", x.failed(3), 0);
        // Worker 1's first try of share 1 has failed when share 0, which wins, is done.
        ShareRuns y = new ShareRuns(2);
        y.value(0, 2, 0L, true);
        y.value(1, 1, 0L, false);
        y.faults(1, 3);
        y.run(2, Draws.seedThatTells("0/2", "1/2", "0/2"), MOST);
        checks.due("dropped behind the winner", y.failed(1), 0);
    }

    // Promise 11

    private void ofAt() {
        checks.sentence(11, "At which TICK .. a SHARE was done", this::atTellsTheTick);
        checks.sentence(11, "from 1 on", this::ticksFromOne);
        checks.sentence(11, "0 if it wasn't", this::atOfWhatWasNotDone);
        checks.sentence(11, "or is behind the WINNER", this::atBehindTheWinner);
    }

    private void atTellsTheTick() {
        ShareRuns x = new ShareRuns(3);
        x.value(0, 3, 0L, false);
        x.value(1, 2, 0L, false);
        x.run(3, Draws.seedThatTells("0/3", "1/3", "2/3", "1/2"), MOST);
        checks.due("share 2", x.at(2), 3);
        checks.due("share 1", x.at(1), 4);
        checks.due("share 0", x.at(0), 6);
        ShareRuns longest = new ShareRuns(16);
        for (int share = 0; share < 16; share++) {
            longest.value(share, 100, 0L, false);
            longest.faults(share, 3);
        }
        longest.run(1, 0L, 6400);
        checks.due("the last tick that can be", longest.at(15), 6400);
    }

    private void ticksFromOne() {
        ShareRuns x = new ShareRuns(2);
        for (int workers = 1; workers <= 16; workers++) {
            x.run(workers, 0L, MOST);
            checks.due("the first, " + workers + " workers", x.at(0), 1);
            checks.due("the last, " + workers + " workers", x.at(1), 2);
        }
    }

    private void atOfWhatWasNotDone() {
        ShareRuns x = winnerAloneIsDone();
        checks.due("the winner", x.at(0), 3);
        checks.due("begun and dropped", x.at(1), 0);
        checks.due("never begun", x.at(2), 0);
    }

    private void atBehindTheWinner() {
        ShareRuns x = allBehindTheWinnerAreDone();
        checks.due("the winner", x.at(1), x.ticks(2));
        checks.due("ahead of the winner", x.at(0), 1);
        checks.due("done behind the winner", x.at(2), 0);
        checks.due("settled behind the winner", x.at(3), 0);
    }

    // Promise 12

    private void ofCount() {
        checks.sentence(12, "How many SHARES there are.", this::countTellsShares);
        checks.sentence(12, "int count() (no exception)", this::countStays);
    }

    private void countTellsShares() {
        for (int shares = -1; shares <= 18; shares++) {
            checks.due("asked for " + shares, new ShareRuns(shares).count(),
                    Math.max(1, Math.min(16, shares)));
        }
    }

    private void countStays() {
        ShareRuns x = new ShareRuns(7);
        x.value(3, 5, 5L, true);
        checks.due("nothing known", x.count(), 7);
        x.run(1, 0L, MOST);
        checks.due("behind a run that did four of them", x.count(), 7);
        checks.due("and all stays known", x.answer(), 5L);
        x.run(2, 0L, 0);
        checks.due("behind a stopped run", x.count(), 7);
        Checks.answerOf(() -> x.run(0, 0L, 0));
        checks.due("behind a refused one", x.count(), 7);
    }

    // "What it is"

    private void ofAllRuns() {
        checks.sentence(4, "which worker moves is told by a seed", this::sameSeedSameRun);
        checks.sentence(6, "what is counted is the same however it goes", this::sameHoweverItGoes);
        checks.sentence(4, "at most 512 calls after it has been made", this::longestRunsToTheLastCall);
    }

    private void sameSeedSameRun() {
        ShareRuns x = Samples.ofMany(4);
        x.run(5, 77L, MOST);
        String first = Answers.all(x);
        x.run(5, 78L, MOST);
        checks.due("another seed tells another run", Answers.all(x).equals(first), false);
        x.run(5, 77L, MOST);
        checks.due("the seed again, behind another run", Answers.all(x), first);
        ShareRuns y = Samples.ofMany(4);
        y.run(5, 77L, MOST);
        checks.due("the seed on another object", Answers.all(y), first);
    }

    private void sameHoweverItGoes() {
        for (int winner : new int[] {-1, 0, 3, 5}) {
            for (int workers = 1; workers <= 16; workers++) {
                ShareRuns x = Samples.ofMany(winner);
                for (long seed = -8; seed < 8; seed++) {
                    String how = workers + " workers, seed " + seed;
                    checks.due("winner, " + how, x.run(workers, seed, MOST), winner);
                    checks.due("answer, " + how, x.answer(), winner < 0 ? 15L : winner);
                    checks.due("counted, " + how, x.ticks(0),
                            Samples.neededUpTo(winner < 0 ? 5 : winner));
                    checks.due("failed, " + how, failures(x), failuresUpTo(winner < 0 ? 5 : winner));
                }
            }
        }
    }

    private static String failures(ShareRuns x) {
        StringBuilder failures = new StringBuilder();
        for (int share = 0; share < x.count(); share++) {
            failures.append(x.failed(share)).append(' ');
        }
        return failures.toString();
    }

    private static String failuresUpTo(int last) {
        StringBuilder failures = new StringBuilder();
        for (int share = 0; share < Samples.SHARES; share++) {
            failures.append(share <= last ? Samples.faultsOf(share) : 0).append(' ');
        }
        return failures.toString();
    }

    private void longestRunsToTheLastCall() {
        ShareRuns x = new ShareRuns(16);
        for (int share = 0; share < 16; share++) {
            x.value(share, 100, 1L, false);
            x.faults(share, 3);
        }
        for (int call = 33; call < 512; call++) {
            checks.due("call " + call, x.run(16, call, MOST), -1);
        }
        checks.due("call 512", x.answer(), 16L);
    }

    // Runs that several of the tests above ask about

    /** Of three shares 0 wins with tick 3, when 1 has been begun and 2 has not. */
    private static ShareRuns winnerAloneIsDone() {
        ShareRuns x = new ShareRuns(3);
        x.value(0, 2, 0L, true);
        x.value(1, 2, 0L, false);
        x.run(2, Draws.seedThatTells("0/2", "1/2", "0/2"), MOST);
        return x;
    }

    /**
     * Worker 0 does share 0, worker 1 takes share 1, which wins; worker 0 does share 2, whose first
     * try fails, and share 3, which settles too.
     */
    private static ShareRuns allBehindTheWinnerAreDone() {
        ShareRuns x = new ShareRuns(4);
        x.value(1, 5, 0L, true);
        x.value(3, 1, 0L, true);
        x.faults(1, 3);
        x.faults(2, 1);
        x.run(2, Draws.seedThatTells("0/2", "1/2", "0/2", "0/2", "0/2"), MOST);
        return x;
    }
}
