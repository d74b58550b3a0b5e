import java.util.Random;

/** Long runs of calls, drawn from fixed seeds, answered alike by the class and the plain model. */
public final class ModelTest {
    private static final int OBJECTS = 1500;
    private static final int PROMISED_CALLS = 512;
    private static final int CALLS_OF_EVERY_ANSWER = 8 * 19;
    private static final int[] ODD = {
        Integer.MIN_VALUE, -3, -2, -1, 0, 1, 2, 3, 4, 15, 16, 17, 99, 100, 101, 9999, 10000, 10001,
        Integer.MAX_VALUE
    };

    private final Random random;
    private final ShareRuns made;
    private final PlainModel model;
    private final String name;
    private int calls = 0;

    private ModelTest(int number) {
        random = new Random(number);
        int shares = random.nextInt(20) - 1;
        made = new ShareRuns(shares);
        model = new PlainModel(shares);
        name = "object " + number + " of " + shares + " shares, ";
    }

    public static void main(String[] args) {
        Checks all = new Checks();
        for (int number = 0; number < OBJECTS; number++) {
            all.due("object " + number, new ModelTest(number).firstFault(), "");
        }
        all.end("ModelTest");
    }

    // Nothing is promised behind the 512th call, so none is made there.
    private String firstFault() {
        while (calls < PROMISED_CALLS) {
            boolean every = random.nextInt(30) == 0 && calls + CALLS_OF_EVERY_ANSWER <= PROMISED_CALLS;
            String fault = every ? everyAnswer() : oneCall();
            if (!fault.isEmpty()) {
                return name + "call " + calls + ": " + fault;
            }
        }
        return "";
    }

    private String oneCall() {
        switch (random.nextInt(4)) {
            case 0:
                return callValue();
            case 1:
                return callFaults();
            case 2:
                return callRun();
            default:
                return callAnswer(random.nextInt(8), number(-1, 17));
        }
    }

    private String callValue() {
        int share = number(-1, model.count());
        int work = random.nextInt(3) == 0 ? number(0, 101) : 1 + random.nextInt(6);
        long v = random.nextInt(3) == 0 ? random.nextLong() : random.nextInt(3);
        boolean settles = random.nextInt(5) == 0;
        return compare("value(" + share + ", " + work + ", " + v + ", " + settles + ")",
                Checks.answerOf(() -> Checks.asLong(made.value(share, work, v, settles))),
                Checks.answerOf(() -> Checks.asLong(model.value(share, work, v, settles))));
    }

    private String callFaults() {
        int share = number(-1, model.count());
        int faults = number(-1, 4);
        return compare("faults(" + share + ", " + faults + ")",
                Checks.answerOf(() -> Checks.asLong(made.faults(share, faults))),
                Checks.answerOf(() -> Checks.asLong(model.faults(share, faults))));
    }

    private String callRun() {
        int workers = number(0, 17);
        long seed = random.nextInt(3) == 0 ? random.nextInt(4) - 2 : random.nextLong();
        int limit = random.nextInt(6) == 0 ? number(-1, 300) : 10000;
        return compare("run(" + workers + ", " + seed + ", " + limit + ")",
                Checks.answerOf(() -> made.run(workers, seed, limit)),
                Checks.answerOf(() -> model.run(workers, seed, limit)));
    }

    private String everyAnswer() {
        for (int kind = 0; kind < 8; kind++) {
            for (int n = -1; n <= 17; n++) {
                String fault = callAnswer(kind, n);
                if (!fault.isEmpty()) {
                    return fault;
                }
            }
        }
        return "";
    }

    private String callAnswer(int kind, int n) {
        switch (kind) {
            case 0:
                return compare("answer()", Checks.answerOf(made::answer), Checks.answerOf(model::answer));
            case 1:
                return compare("ticks(" + n + ")",
                        Checks.answerOf(() -> made.ticks(n)), Checks.answerOf(() -> model.ticks(n)));
            case 2:
                return compare("worked(" + n + ")",
                        Checks.answerOf(() -> made.worked(n)), Checks.answerOf(() -> model.worked(n)));
            case 3:
                return compare("done(" + n + ")",
                        Checks.answerOf(() -> made.done(n)), Checks.answerOf(() -> model.done(n)));
            case 4:
                return compare("by(" + n + ")",
                        Checks.answerOf(() -> made.by(n)), Checks.answerOf(() -> model.by(n)));
            case 5:
                return compare("failed(" + n + ")",
                        Checks.answerOf(() -> made.failed(n)), Checks.answerOf(() -> model.failed(n)));
            case 6:
                return compare("at(" + n + ")",
                        Checks.answerOf(() -> made.at(n)), Checks.answerOf(() -> model.at(n)));
            default:
                return compare("count()", Checks.answerOf(made::count), Checks.answerOf(model::count));
        }
    }

    private int number(int low, int high) {
        if (random.nextInt(16) == 0) {
            return ODD[random.nextInt(ODD.length)];
        }
        return low + random.nextInt(high - low + 1);
    }

    private String compare(String call, String got, String want) {
        calls++;
        return got.equals(want) ? "" : call + " answered " + got + ", due is " + want;
    }
}
