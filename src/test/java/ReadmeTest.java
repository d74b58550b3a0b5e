/** The example in README.md answers what stands beside it there. */
public final class ReadmeTest {
    public static void main(String[] args) {
        Checks checks = new Checks();
        ShareRuns x = new ShareRuns(4);
        x.value(0, 3, 10L, false);
        x.value(1, 2, 20L, true);
        x.value(2, 1, 30L, true);
        x.faults(1, 2);
        checks.due("run", x.run(4, 7L, 10000), 1);
        checks.due("answer", x.answer(), 20L);
        checks.due("counted", x.ticks(0), 9);
        checks.due("lost", x.ticks(1), 1);
        checks.due("by", x.by(1), 3);
        checks.due("done", x.done(0), 2);
        checks.end("ReadmeTest");
    }
}
