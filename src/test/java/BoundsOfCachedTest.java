/** The boundary cases of promise 11. */
public final class BoundsOfCachedTest {
    private static final int[] FAR = {Integer.MIN_VALUE, Integer.MAX_VALUE};

    public static void main(String[] args) {
        Check.sentence("NoSuchElementException: the cache is empty", BoundsOfCachedTest::empty);
        Check.sentence("entry i: too small or too large", BoundsOfCachedTest::wrongPlaces);
        Check.sentence("entry i (from 0, the oldest): the first and the last",
                BoundsOfCachedTest::ends);
        Check.sentence("entry i: the sixteenth of sixteen, and no seventeenth",
                BoundsOfCachedTest::full);
        Check.finish();
    }

    private static void empty() {
        int[] places = {0, 1, 15, 16, -1, FAR[0], FAR[1]};
        for (int i : places) {
            Twin.refused(TraceBuilder::new, "new: cached(" + i + ")", Check.MISSING,
                    x -> x.cached(i));
        }
        TraceBuilder x = Made.full();
        x.shrink(0);
        Check.thrown("cut to 0: cached(0)", Check.MISSING, () -> x.cached(0));
        TraceBuilder y = Made.fullOfOneKey();
        y.remove(1);
        Check.thrown("all removed: cached(0)", Check.MISSING, () -> y.cached(0));
    }

    private static void wrongPlaces() {
        int size = Made.mixed().count(7);
        int[] places = {-1, -2, size, size + 1, 15, 16, FAR[0], FAR[1]};
        for (int i : places) {
            Twin.refused(Made::mixed, "cached(" + i + ")", Check.MISSING, x -> x.cached(i));
        }
    }

    private static void ends() {
        TraceBuilder x = new TraceBuilder();
        x.task(11, Made.SUM, -1, -1, -1);
        x.build(1, 11);
        Check.same("one entry: cached(0)", x.cached(0), 11);
        Check.thrown("one entry: cached(1)", Check.MISSING, () -> x.cached(1));
        x.task(0, Made.SUM, 11, -1, -1);
        x.build(0, 0);
        Check.same("the oldest", x.cached(0), 11);
        Check.same("the newest", x.cached(1), 0);
        Check.thrown("behind it", Check.MISSING, () -> x.cached(2));
    }

    private static void full() {
        TraceBuilder x = Made.full();
        Check.same("the first of sixteen", x.cached(0), 11);
        Check.same("the last of sixteen", x.cached(15), 1);
        Check.thrown("no seventeenth", Check.MISSING, () -> x.cached(16));
        x.task(2, Made.SUM, -1, -1, -1);
        x.build(0, 2);
        Check.same("one more: the first", x.cached(0), 1);
        Check.same("one more: the last", x.cached(15), 2);
        Check.thrown("one more: no seventeenth", Check.MISSING, () -> x.cached(16));
    }
}
