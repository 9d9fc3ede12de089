/** Promises 12 and 13. */
public final class CountTest {
    public static void main(String[] args) {
        unknown();
        asksAreCountedWhereTheyAreMade();
        checkedAndTakenAreApart();
        brokenRuns();
        onlyBuildsCount();
        Check.finish();
    }

    private static void unknown() {
        TraceBuilder x = new TraceBuilder();
        int[] wrong = {-1, 11, 12, Integer.MIN_VALUE, Integer.MAX_VALUE};
        for (int what : wrong) {
            Check.same("count(" + what + ")", x.count(what), -1);
        }
    }

    /** The ask that throws counts, those that would have come behind it do not. */
    private static void asksAreCountedWhereTheyAreMade() {
        TraceBuilder x = new TraceBuilder();
        x.input(0, 1L);
        x.task(1, 0, 0, 2, 0);
        Check.thrown("the second is missing", Check.MISSING, () -> x.build(0, 1));
        Check.counts("two asks", x, 2, 0, 0, 0, 1, 1, 1, 0, 0, 0, 0);
        x.task(2, 0, 0, 0, -1);
        x.build(0, 1);
        Check.counts("asks in runs alone", x, 7, 0, 0, 2, 1, 2, 1, 2, 2, 0, 0);
        x.build(0, 1);
        x.build(1, 1);
        Check.same("checking and taking ask nothing", x.count(0), 7);
    }

    private static void checkedAndTakenAreApart() {
        TraceBuilder x = new TraceBuilder();
        x.input(0, 1L);
        x.task(1, 0, 0, -1, -1);
        x.task(2, 0, 1, -1, -1);
        x.build(0, 1);
        x.build(1, 2);
        Check.counts("1 is taken, 2 runs", x, 2, 0, 1, 2, 0, 2, 0, 2, 1, 2, 0);
        x.build(0, 2);
        Check.counts("1 is checked, 2 is taken", x, 2, 1, 2, 2, 0, 3, 0, 2, 2, 2, 0);
        x.input(0, 2L);
        x.build(0, 2);
        Check.counts("a trace found other is no check", x, 4, 1, 2, 4, 0, 4, 0, 4, 2, 2, 0);
        x.build(0, 0);
        Check.counts("an input is not checked", x, 4, 1, 2, 4, 0, 5, 0, 4, 2, 2, 0);
    }

    private static void brokenRuns() {
        TraceBuilder x = new TraceBuilder();
        x.input(0, 1L);
        x.task(1, 6, -1, -1, -1);
        x.task(2, 8, 1, -1, -1);
        x.task(3, 0, 0, 2, -1);
        Check.thrown("three runs", Check.MISSING, () -> x.build(1, 3));
        Check.counts("three runs", x, 3, 0, 0, 0, 3, 1, 1, 0, 0, 0, 0);
        Check.thrown("one run", Check.MISSING, () -> x.build(1, 1));
        Check.counts("one run more", x, 3, 0, 0, 0, 4, 2, 2, 0, 0, 0, 0);
    }

    private static void onlyBuildsCount() {
        TraceBuilder x = new TraceBuilder();
        x.input(0, 1L);
        x.task(1, 0, 0, -1, -1);
        x.build(0, 1);
        x.stale(0, 1);
        x.stale(1, 1);
        x.trace(0, 1, 0);
        x.traced(0, 1, 0);
        x.cached(0);
        x.shrink(16);
        Check.thrown("remove", Check.MISSING, () -> x.remove(5));
        Check.counts("one build", x, 1, 0, 0, 1, 0, 1, 0, 1, 1, 0, 0);
        x.remove(1);
        x.forget(0);
        x.shrink(0);
        Check.counts("what was counted stays", x, 1, 0, 0, 1, 0, 1, 0, 0, 0, 0, 0);
    }
}
