/** The boundary cases of promise 6. */
public final class BoundsOfForgetTest {
    public static void main(String[] args) {
        Check.sentence("Bad: a worker too small or too large", BoundsOfForgetTest::badWorkers);
        Check.sentence("Answers how many it had: none", BoundsOfForgetTest::none);
        Check.sentence("Answers how many it had: all twelve", BoundsOfForgetTest::twelve);
        Check.sentence("The worker: not the other one", BoundsOfForgetTest::notTheOther);
        Check.sentence("has no TRACES any more: THE CACHE has", BoundsOfForgetTest::cacheStays);
        Check.finish();
    }

    private static void badWorkers() {
        int[] workers = {-1, 2, Integer.MIN_VALUE, Integer.MAX_VALUE};
        for (int worker : workers) {
            Twin.refused(Made::mixed, "forget(" + worker + ")", Check.BAD, x -> x.forget(worker));
        }
    }

    private static void none() {
        Twin.unchanged(TraceBuilder::new, "new", x -> Check.same("new", x.forget(1), 0));
        Twin.unchanged(Made::full, "forget(1)", x -> Check.same("forget(1)", x.forget(1), 0));
        TraceBuilder x = Made.full();
        x.forget(0);
        Check.same("again", x.forget(0), 0);
    }

    private static void twelve() {
        TraceBuilder x = Made.twelveTraces();
        Check.same("forget(0)", x.forget(0), 12);
        Check.same("traces left", x.count(8), 0);
        for (int key = 0; key < 12; key++) {
            Check.noTrace("key " + key, x, 0, key);
        }
        Check.same("forget(0) again", x.forget(0), 0);
    }

    private static void notTheOther() {
        for (int worker = 0; worker < 2; worker++) {
            TraceBuilder x = Made.fullOfOneKey();
            x.build(1, 1);
            Check.same("forget", x.forget(worker), 1);
            Check.noTrace("forget", x, worker, 1);
            Check.trace("the other one's", x, 1 - worker, 1, 16L, 0, 16L);
            Check.same("the other one's", x.count(9 - worker), 1);
        }
    }

    private static void cacheStays() {
        TraceBuilder x = Made.full();
        Check.same("forget(0)", x.forget(0), 2);
        Check.cache("all sixteen", x, 11, 1, 1, 1, 1, 1, 1, 1, 1, 1, 1, 1, 1, 1, 1, 1);
        Check.same("taken again", x.build(0, 1), 15L);
        Check.counts("taken again", x, 15, 0, 1, 16, 0, 17, 0, 16, 1, 0, 0);
    }
}
