/**
 * The sentences of the document's "Terms" about exceptions, each by a test of its own for every
 * promise that it holds for.
 */
public final class RefusalsTest {
    private static final int MIN = Answers.MIN;
    private static final int MAX = Answers.MAX;
    private static final int MOST = 10000;

    private final Checks checks = new Checks();
    private final Answers answers = new Answers(checks);

    /** A call of the face that takes one number. */
    private interface Asked {
        long answer(ShareRuns x, int n);
    }

    public static void main(String[] args) {
        RefusalsTest test = new RefusalsTest();
        test.ofPlacesThatAreNot();
        test.ofNothingKnown();
        test.ofSeveral();
        test.ofWhatStays();
        test.checks.end("RefusalsTest");
    }

    // "IndexOutOfBoundsException: no such SHARE, WORKER, place."

    private void ofPlacesThatAreNot() {
        String index = "IndexOutOfBoundsException: no such SHARE";
        checks.sentence(2, index, this::valueNeedsAShare);
        checks.sentence(3, index, this::faultsNeedAShare);
        checks.sentence(9, index, () -> needsAShare(ShareRuns::by));
        checks.sentence(10, index, () -> needsAShare(ShareRuns::failed));
        checks.sentence(11, index, () -> needsAShare(ShareRuns::at));
        checks.sentence(7, "IndexOutOfBoundsException: no such .. WORKER", this::workedNeedsAWorker);
        checks.sentence(8, "IndexOutOfBoundsException: no such .. place", this::doneNeedsAPlace);
    }

    private void valueNeedsAShare() {
        ShareRuns x = new ShareRuns(3);
        answers.dueIndexes("value", n -> Checks.asLong(x.value(n, 1, 0L, false)), MIN, -1, 3, 16, MAX);
        ShareRuns full = new ShareRuns(16);
        answers.dueIndexes("of 16", n -> Checks.asLong(full.value(n, 1, 0L, false)), -1, 16, MAX);
    }

    private void faultsNeedAShare() {
        ShareRuns x = new ShareRuns(3);
        answers.dueIndexes("faults", n -> Checks.asLong(x.faults(n, 0)), MIN, -1, 3, 16, MAX);
        ShareRuns full = new ShareRuns(16);
        answers.dueIndexes("of 16", n -> Checks.asLong(full.faults(n, 0)), -1, 16, MAX);
    }

    private void needsAShare(Asked asked) {
        for (int shares : new int[] {1, 3, 16}) {
            ShareRuns x = new ShareRuns(shares);
            x.run(16, 0L, MOST);
            answers.dueIndexes(shares + " shares", n -> asked.answer(x, n), MIN, -1, shares, 16, MAX);
            answers.dueAnswer("the last share is one", () -> asked.answer(x, shares - 1));
        }
    }

    private void workedNeedsAWorker() {
        ShareRuns x = new ShareRuns(3);
        for (int workers : new int[] {16, 1, 7}) {
            x.run(workers, 0L, MOST);
            answers.dueIndexes(workers + " workers", x::worked, MIN, -1, workers, 16, MAX);
            answers.dueAnswer("the last worker is one", () -> x.worked(workers - 1));
        }
    }

    private void doneNeedsAPlace() {
        ShareRuns x = new ShareRuns(5);
        x.run(1, 0L, MOST);
        answers.dueIndexes("all five are done", x::done, MIN, -1, 5, 16, MAX);
        x.value(1, 1, 0L, true);
        x.run(1, 0L, MOST);
        answers.dueIndexes("two are done", x::done, MIN, -1, 2, 4, 5, 16, MAX);
        ShareRuns full = new ShareRuns(16);
        full.run(1, 0L, MOST);
        checks.due("sixteenth place", full.done(15), 15);
        answers.dueIndexes("sixteen are done", full::done, -1, 16, 17, MAX);
    }

    // "IllegalStateException: nothing is KNOWN."

    private void ofNothingKnown() {
        String state = "IllegalStateException: nothing is KNOWN.";
        checks.sentence(5, state, () -> needsARun((x, n) -> x.answer(), 0));
        checks.sentence(6, state, () -> needsARun(ShareRuns::ticks, 0, 1, 2));
        checks.sentence(7, state, () -> needsARun(ShareRuns::worked, 0, 1, 2));
        checks.sentence(8, state, () -> needsARun(ShareRuns::done, 0, 1, 2));
        checks.sentence(9, state, () -> needsARun(ShareRuns::by, 0, 1, 2));
        checks.sentence(10, state, () -> needsARun(ShareRuns::failed, 0, 1, 2));
        checks.sentence(11, state, () -> needsARun(ShareRuns::at, 0, 1, 2));
    }

    // A new object, a run that was stopped, and a share that is another one.
    private void needsARun(Asked asked, int... numbers) {
        ShareRuns x = new ShareRuns(3);
        answers.dueStates("new", n -> asked.answer(x, n), numbers);
        x.run(3, 0L, 1);
        answers.dueStates("stopped", n -> asked.answer(x, n), numbers);
        x.run(3, 0L, MOST);
        x.run(3, 0L, 2);
        answers.dueStates("stopped behind a run", n -> asked.answer(x, n), numbers);
        x.run(3, 0L, MOST);
        x.value(2, 1, 1L, false);
        answers.dueStates("another value", n -> asked.answer(x, n), numbers);
        x.run(3, 0L, MOST);
        x.faults(2, 1);
        answers.dueStates("other faults", n -> asked.answer(x, n), numbers);
    }

    // "Of several the one that stands first behind "throws" is thrown;"

    private void ofSeveral() {
        String several = "Of several the one that stands first behind \"throws\" is thrown";
        checks.sentence(2, several, this::valueWantsTheShareFirst);
        checks.sentence(3, several, this::faultsWantTheShareFirst);
        checks.sentence(7, several, () -> needsARun(ShareRuns::worked, MIN, -1, 3, 16, MAX));
        checks.sentence(8, several, () -> needsARun(ShareRuns::done, MIN, -1, 3, 16, MAX));
        checks.sentence(9, several, () -> needsARun(ShareRuns::by, MIN, -1, 3, 16, MAX));
        checks.sentence(10, several, () -> needsARun(ShareRuns::failed, MIN, -1, 3, 16, MAX));
        checks.sentence(11, several, () -> needsARun(ShareRuns::at, MIN, -1, 3, 16, MAX));
    }

    private void valueWantsTheShareFirst() {
        ShareRuns x = new ShareRuns(3);
        for (int work : new int[] {MIN, 0, 101, MAX}) {
            answers.dueIndexes("work " + work, n -> Checks.asLong(x.value(n, work, 0L, false)),
                    MIN, -1, 3, 16, MAX);
        }
    }

    private void faultsWantTheShareFirst() {
        ShareRuns x = new ShareRuns(3);
        for (int faults : new int[] {MIN, -1, 4, MAX}) {
            answers.dueIndexes("faults " + faults, n -> Checks.asLong(x.faults(n, faults)),
                    MIN, -1, 3, 16, MAX);
        }
    }

    // "nothing changes."

    private void ofWhatStays() {
        String still = "nothing changes";
        checks.sentence(2, still, this::refusedValueChangesNothing);
        checks.sentence(3, still, this::refusedFaultsChangeNothing);
        checks.sentence(4, still, this::refusedRunChangesNothing);
        checks.sentence(4, "nothing changes (nothing gets KNOWN)", this::refusedRunTellsNothing);
        checks.sentence(5, still, () -> refusedUnknownChangesNothing((x, n) -> x.answer()));
        checks.sentence(6, still, () -> refusedUnknownChangesNothing(ShareRuns::ticks));
        checks.sentence(7, still, () -> refusedAnswerChangesNothing(ShareRuns::worked));
        checks.sentence(8, still, () -> refusedAnswerChangesNothing(ShareRuns::done));
        checks.sentence(9, still, () -> refusedAnswerChangesNothing(ShareRuns::by));
        checks.sentence(10, still, () -> refusedAnswerChangesNothing(ShareRuns::failed));
        checks.sentence(11, still, () -> refusedAnswerChangesNothing(ShareRuns::at));
    }

    private void refusedValueChangesNothing() {
        ShareRuns x = new ShareRuns(2);
        x.value(0, 7, 8L, false);
        x.run(2, 0L, MOST);
        String before = Answers.all(x);
        Checks.answerOf(() -> Checks.asLong(x.value(0, 0, 9L, true)));
        Checks.answerOf(() -> Checks.asLong(x.value(0, 101, 9L, true)));
        Checks.answerOf(() -> Checks.asLong(x.value(2, 5, 9L, true)));
        Checks.answerOf(() -> Checks.asLong(x.value(-1, 5, 9L, true)));
        checks.due("all that is known", Answers.all(x), before);
        checks.due("share 0", x.value(0, 7, 8L, false), false);
        checks.due("share 1", x.value(1, 1, 0L, false), false);
    }

    private void refusedFaultsChangeNothing() {
        ShareRuns x = new ShareRuns(2);
        x.faults(0, 2);
        x.run(2, 0L, MOST);
        String before = Answers.all(x);
        Checks.answerOf(() -> Checks.asLong(x.faults(0, -1)));
        Checks.answerOf(() -> Checks.asLong(x.faults(0, 4)));
        Checks.answerOf(() -> Checks.asLong(x.faults(2, 1)));
        Checks.answerOf(() -> Checks.asLong(x.faults(-1, 1)));
        checks.due("all that is known", Answers.all(x), before);
        checks.due("share 0", x.faults(0, 2), false);
        checks.due("share 1", x.faults(1, 0), false);
    }

    private void refusedRunChangesNothing() {
        ShareRuns x = Samples.ofMany(3);
        x.run(3, 5L, MOST);
        String before = Answers.all(x);
        refuseRuns(x);
        checks.due("all that is known", Answers.all(x), before);
        checks.due("the winner", x.run(3, 5L, MOST), 3);
        checks.due("the same run again", Answers.all(x), before);
    }

    private void refusedRunTellsNothing() {
        ShareRuns x = new ShareRuns(1);
        refuseRuns(x);
        answers.dueUnknown("new", x);
        x.run(1, 0L, 0);
        refuseRuns(x);
        answers.dueUnknown("stopped", x);
    }

    private static void refuseRuns(ShareRuns x) {
        Checks.answerOf(() -> x.run(0, 1L, MOST));
        Checks.answerOf(() -> x.run(17, 1L, MOST));
        Checks.answerOf(() -> x.run(1, 1L, -1));
        Checks.answerOf(() -> x.run(1, 1L, MOST + 1));
        Checks.answerOf(() -> x.run(0, 1L, -1));
    }

    private void refusedAnswerChangesNothing(Asked asked) {
        ShareRuns x = Samples.ofMany(3);
        Checks.answerOf(() -> asked.answer(x, 0));
        answers.dueUnknown("new", x);
        x.run(3, 5L, MOST);
        String before = Answers.all(x);
        for (int n : new int[] {MIN, -1, 16, MAX}) {
            answers.dueIndex("refused", () -> asked.answer(x, n));
        }
        checks.due("all that is known", Answers.all(x), before);
    }

    private void refusedUnknownChangesNothing(Asked asked) {
        ShareRuns x = Samples.ofMany(3);
        x.run(3, 5L, MOST);
        String before = Answers.all(x);
        x.run(3, 5L, 1);
        checks.dueThrow("stopped", Checks.STATE, () -> asked.answer(x, 0));
        answers.dueUnknown("stopped and refused", x);
        x.run(3, 5L, MOST);
        checks.due("the same run again", Answers.all(x), before);
    }
}
