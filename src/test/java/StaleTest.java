/** Promise 10. */
public final class StaleTest {
    public static void main(String[] args) {
        answers();
        nothingIsChanged();
        nothingIsChangedAtSixteen();
        thrown();
        badNumbers();
        Check.finish();
    }

    private static void answers() {
        TraceBuilder x = new TraceBuilder();
        x.input(0, 1L);
        Check.same("an input", x.stale(0, 0), false);
        x.task(1, 8, 0, -1, -1);
        x.task(2, 0, 1, -1, -1);
        Check.same("never built", x.stale(0, 2), true);
        x.build(0, 2);
        Check.same("built", x.stale(0, 2), false);
        Check.same("in the cache for the other", x.stale(1, 2), false);
        x.input(0, 2L);
        Check.same("only one below runs", x.stale(0, 2), true);
        Check.same("only one below runs, for the other", x.stale(1, 2), true);
        x.build(1, 2);
        Check.same("now the cache has it", x.stale(0, 2), false);
        x.shrink(0);
        Check.same("now it has not", x.stale(0, 2), true);
        Check.same("but the other knows", x.stale(1, 2), false);
    }

    private static void nothingIsChanged() {
        TraceBuilder x = new TraceBuilder();
        x.input(0, 1L);
        x.task(1, 0, 0, -1, -1);
        x.task(2, 0, 1, 0, -1);
        x.build(0, 2);
        x.stale(1, 2);
        Check.counts("taken", x, 3, 0, 0, 2, 0, 1, 0, 2, 2, 0, 0);
        Check.noTrace("taken", x, 1, 2);
        x.input(0, 5L);
        x.stale(0, 2);
        x.stale(0, 2);
        x.stale(1, 2);
        Check.counts("run", x, 3, 0, 0, 2, 0, 1, 0, 2, 2, 0, 0);
        Check.cache("run", x, 1, 2);
        Check.trace("run", x, 0, 2, 2L, 1, 1L, 0, 1L);
        Check.same("the build is still to do", x.build(0, 2), 10L);
        Check.counts("the build is still to do", x, 6, 0, 0, 4, 0, 2, 0, 4, 2, 0, 0);
    }

    private static void nothingIsChangedAtSixteen() {
        TraceBuilder x = new TraceBuilder();
        x.task(11, 0, -1, -1, -1);
        x.build(0, 11);
        x.task(1, 0, 0, -1, -1);
        for (int i = 0; i < 15; i++) {
            x.input(0, i);
            x.build(0, 1);
        }
        x.input(0, 99L);
        Check.same("at sixteen", x.stale(0, 1), true);
        Check.cache("at sixteen", x, 11, 1, 1, 1, 1, 1, 1, 1, 1, 1, 1, 1, 1, 1, 1, 1);
    }

    private static void thrown() {
        TraceBuilder x = new TraceBuilder();
        Check.thrown("nothing", Check.MISSING, () -> x.stale(0, 0));
        x.input(0, 1L);
        x.input(1, 0L);
        x.task(2, 0, 0, -1, -1);
        x.task(3, 3, 2, 1, -1);
        x.task(4, 4, 0, -1, -1);
        x.task(5, 9, 0, 1, -1);
        x.task(6, 0, 6, -1, -1);
        Check.thrown("quotient", Check.ARITHMETIC, () -> x.stale(0, 3));
        Check.same("pointer", x.stale(0, 4), true);
        Check.thrown("limit", Check.STATE, () -> x.stale(1, 5));
        Check.thrown("circle", Check.STATE, () -> x.stale(1, 6));
        Check.counts("nothing is counted", x, 0, 0, 0, 0, 0, 0, 0, 0, 0, 0, 0);
        Check.noTrace("not even what was finished", x, 0, 2);
        Check.cache("not even what was finished", x);
        x.input(7, 3L);
        Check.same("after a thrown one", x.stale(0, 7), false);
    }

    private static void badNumbers() {
        TraceBuilder x = new TraceBuilder();
        int[][] bad = {{-1, 0}, {2, 0}, {0, -1}, {0, 12}, {Integer.MAX_VALUE, 0},
            {1, Integer.MIN_VALUE}};
        for (int[] pair : bad) {
            Check.thrown("stale", Check.BAD, () -> x.stale(pair[0], pair[1]));
        }
    }
}
