/** Promise 7. */
public final class ShrinkTest {
    public static void main(String[] args) {
        TraceBuilder x = new TraceBuilder();
        Check.same("empty", x.shrink(0), 0);
        for (int key = 0; key < 6; key++) {
            x.task(key, 0, -1, -1, -1);
            x.build(0, key);
        }
        Check.same("to 16", x.shrink(16), 0);
        Check.same("to as many as there are", x.shrink(6), 0);
        Check.cache("uncut", x, 0, 1, 2, 3, 4, 5);
        Check.same("to 4", x.shrink(4), 2);
        Check.cache("cut to 4", x, 2, 3, 4, 5);
        Check.trace("the worker's stays", x, 0, 0, 0L);
        bad(x);
        Check.same("the cut one runs", x.stale(1, 1), true);
        Check.same("the kept one is taken", x.stale(1, 2), false);
        x.build(1, 0);
        Check.cache("grown again", x, 2, 3, 4, 5, 0);
        Check.same("to 1", x.shrink(1), 4);
        Check.cache("cut to 1", x, 0);
        Check.same("to 0", x.shrink(0), 1);
        Check.cache("cut to 0", x);
        Check.finish();
    }

    private static void bad(TraceBuilder x) {
        int[] sizes = {-1, 17, Integer.MIN_VALUE, Integer.MAX_VALUE};
        for (int n : sizes) {
            Check.thrown("shrink(" + n + ")", Check.BAD, () -> x.shrink(n));
        }
        Check.cache("after bad calls", x, 2, 3, 4, 5);
    }
}
