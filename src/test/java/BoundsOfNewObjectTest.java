/** The boundary cases of promise 1: everything is empty. */
public final class BoundsOfNewObjectTest {
    public static void main(String[] args) {
        Check.sentence("All keys are NOTHING", BoundsOfNewObjectTest::nothing);
        Check.sentence("no TRACES", BoundsOfNewObjectTest::noTraces);
        Check.sentence("THE CACHE is empty", BoundsOfNewObjectTest::emptyCache);
        Check.sentence("Of all builds so far", BoundsOfNewObjectTest::noBuilds);
        Check.finish();
    }

    private static void nothing() {
        for (int key = 0; key < 12; key++) {
            int k = key;
            TraceBuilder x = new TraceBuilder();
            Check.thrown("remove(" + k + ")", Check.MISSING, () -> x.remove(k));
            Check.thrown("build(0, " + k + ")", Check.MISSING, () -> x.build(0, k));
            Check.thrown("build(1, " + k + ")", Check.MISSING, () -> x.build(1, k));
            Check.thrown("stale(0, " + k + ")", Check.MISSING, () -> x.stale(0, k));
            Check.thrown("stale(1, " + k + ")", Check.MISSING, () -> x.stale(1, k));
        }
    }

    private static void noTraces() {
        TraceBuilder x = new TraceBuilder();
        for (int key = 0; key < 12; key++) {
            Check.noTrace("key " + key, x, 0, key);
            Check.noTrace("key " + key, x, 1, key);
        }
        Check.same("traces of worker 0", x.count(8), 0);
        Check.same("traces of worker 1", x.count(9), 0);
        Check.same("forget(0)", x.forget(0), 0);
        Check.same("forget(1)", x.forget(1), 0);
    }

    private static void emptyCache() {
        TraceBuilder x = new TraceBuilder();
        Check.same("entries", x.count(7), 0);
        Check.thrown("cached(0)", Check.MISSING, () -> x.cached(0));
        Check.thrown("cached(15)", Check.MISSING, () -> x.cached(15));
        Check.same("shrink(16)", x.shrink(16), 0);
        Check.same("shrink(0)", x.shrink(0), 0);
    }

    private static void noBuilds() {
        Check.counts("new", new TraceBuilder(), 0, 0, 0, 0, 0, 0, 0, 0, 0, 0, 0);
    }
}
