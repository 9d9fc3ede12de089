/** Promise 6. */
public final class ForgetTest {
    public static void main(String[] args) {
        TraceBuilder x = new TraceBuilder();
        Check.same("nothing to forget", x.forget(0), 0);
        x.input(0, 3L);
        x.task(11, 0, 0, -1, -1);
        x.task(1, 0, 11, -1, -1);
        x.task(2, 0, 0, -1, -1);
        x.build(0, 1);
        x.build(0, 2);
        x.build(1, 1);
        Check.same("forget(0)", x.forget(0), 3);
        Check.noTrace("forgotten", x, 0, 11);
        Check.noTrace("forgotten", x, 0, 1);
        Check.noTrace("forgotten", x, 0, 2);
        Check.trace("the other worker's", x, 1, 1, 3L, 11, 3L);
        Check.cache("forgotten", x, 11, 1, 2);
        Check.counts("forgotten", x, 3, 0, 2, 3, 0, 3, 0, 3, 0, 2, 0);
        Check.same("forget(0) again", x.forget(0), 0);
        Check.same("stale: the cache still has it", x.stale(0, 1), false);
        Check.same("forget(1)", x.forget(1), 2);
        Check.counts("both forgotten", x, 3, 0, 2, 3, 0, 3, 0, 3, 0, 0, 0);
        Check.thrown("forget(-1)", Check.BAD, () -> x.forget(-1));
        Check.thrown("forget(2)", Check.BAD, () -> x.forget(2));
        Check.thrown("forget(least)", Check.BAD, () -> x.forget(Integer.MIN_VALUE));
        Check.finish();
    }
}
