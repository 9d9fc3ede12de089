/** Promise 4. */
public final class RemoveTest {
    public static void main(String[] args) {
        TraceBuilder x = new TraceBuilder();
        x.input(0, 3L);
        x.task(1, 0, 0, -1, -1);
        x.task(2, 0, 1, -1, -1);
        x.build(0, 2);
        x.build(1, 2);
        Check.cache("before", x, 1, 2);
        x.remove(1);
        Check.noTrace("removed", x, 0, 1);
        Check.noTrace("removed", x, 1, 1);
        Check.cache("removed", x, 2);
        Check.trace("above the removed one", x, 0, 2, 3L, 1, 3L);
        Check.thrown("removed again", Check.MISSING, () -> x.remove(1));
        Check.thrown("build of a removed one", Check.MISSING, () -> x.build(0, 1));
        Check.thrown("build above a removed one", Check.MISSING, () -> x.build(0, 2));
        Check.trace("a thrown build keeps the trace", x, 0, 2, 3L, 1, 3L);
        x.remove(0);
        Check.thrown("removed input", Check.MISSING, () -> x.build(0, 0));
        x.input(0, 3L);
        x.task(1, 0, 0, -1, -1);
        Check.same("set again", x.build(0, 2), 3L);
        Check.cache("set again: only what was gone ran", x, 2, 1);
        badKeys(x);
        Check.finish();
    }

    private static void badKeys(TraceBuilder x) {
        int[] keys = {-1, 12, Integer.MIN_VALUE, Integer.MAX_VALUE};
        for (int key : keys) {
            Check.thrown("remove(" + key + ")", Check.BAD, () -> x.remove(key));
        }
        Check.cache("after bad calls", x, 2, 1);
    }
}
