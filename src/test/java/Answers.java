import java.util.function.LongSupplier;

/** Asks an object for all that is known of its latest run. */
final class Answers {
    static final int MIN = Integer.MIN_VALUE;
    static final int MAX = Integer.MAX_VALUE;

    private final Checks checks;

    Answers(Checks checks) {
        this.checks = checks;
    }

    /** A call that takes one number. */
    interface Call {
        long answer(int n);
    }

    void dueIndex(String what, LongSupplier call) {
        checks.dueThrow(what, Checks.INDEX, call);
    }

    /** Each of these numbers is none of a share, worker or place. */
    void dueIndexes(String what, Call call, int... numbers) {
        for (int n : numbers) {
            dueIndex(what + " of " + n, () -> call.answer(n));
        }
    }

    void dueStates(String what, Call call, int... numbers) {
        for (int n : numbers) {
            checks.dueThrow(what + " of " + n, Checks.STATE, () -> call.answer(n));
        }
    }

    void dueKnown(String what, ShareRuns x) {
        dueAnswer(what + ": answer", x::answer);
        for (int n = 0; n < 3; n++) {
            int kind = n;
            dueAnswer(what + ": ticks " + n, () -> x.ticks(kind));
        }
        dueAnswer(what + ": worked", () -> x.worked(0));
        dueAnswer(what + ": done", () -> x.done(0));
        for (int n = 0; n < x.count(); n++) {
            int share = n;
            dueAnswer(what + ": by " + n, () -> x.by(share));
            dueAnswer(what + ": failed " + n, () -> x.failed(share));
            dueAnswer(what + ": at " + n, () -> x.at(share));
        }
    }

    void dueAnswer(String what, LongSupplier call) {
        String answer = Checks.answerOf(call);
        checks.due(what, answer.startsWith("throws.") ? answer : "a number", "a number");
    }

    void dueUnknown(String what, ShareRuns x) {
        checks.dueThrow(what + ": answer", Checks.STATE, x::answer);
        dueStates(what + ": ticks", x::ticks, 0, 1, 2);
        dueStates(what + ": worked", x::worked, 0);
        dueStates(what + ": done", x::done, 0);
        for (int share = 0; share < x.count(); share++) {
            dueStates(what + ": by", x::by, share);
            dueStates(what + ": failed", x::failed, share);
            dueStates(what + ": at", x::at, share);
        }
    }

    /** Every answer about the latest run, those that are refused too, as one text to compare. */
    static String all(ShareRuns x) {
        StringBuilder all = new StringBuilder(Checks.answerOf(x::answer));
        for (int i = 0; i <= 16; i++) {
            int n = i;
            all.append(' ').append(Checks.answerOf(() -> x.ticks(n)));
            all.append(' ').append(Checks.answerOf(() -> x.worked(n)));
            all.append(' ').append(Checks.answerOf(() -> x.done(n)));
            all.append(' ').append(Checks.answerOf(() -> x.by(n)));
            all.append(' ').append(Checks.answerOf(() -> x.failed(n)));
            all.append(' ').append(Checks.answerOf(() -> x.at(n)));
        }
        return all.toString();
    }
}
