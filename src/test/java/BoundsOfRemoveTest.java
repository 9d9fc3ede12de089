/** The boundary cases of promise 4. */
public final class BoundsOfRemoveTest {
    public static void main(String[] args) {
        Check.sentence("Bad: a key too small or too large; it comes first",
                BoundsOfRemoveTest::badKeys);
        Check.sentence("The key becomes NOTHING: the first and the last",
                BoundsOfRemoveTest::endKeys);
        Check.sentence("It was: NoSuchElementException", BoundsOfRemoveTest::wasNothing);
        Check.sentence("its TRACES and all entries of THE CACHE for it are gone",
                BoundsOfRemoveTest::allGo);
        Check.sentence("for it: those that asked for it stay", BoundsOfRemoveTest::othersStay);
        Check.finish();
    }

    private static void badKeys() {
        int[] keys = {-1, 12, Integer.MIN_VALUE, Integer.MAX_VALUE};
        for (int key : keys) {
            Twin.refused(TraceBuilder::new, "remove(" + key + ")", Check.BAD, x -> x.remove(key));
            Twin.refused(Made::mixed, "remove(" + key + ")", Check.BAD, x -> x.remove(key));
        }
    }

    private static void endKeys() {
        TraceBuilder x = Made.twelveTraces();
        x.remove(0);
        x.remove(11);
        Check.thrown("build of key 0", Check.MISSING, () -> x.build(0, 0));
        Check.thrown("build of key 11", Check.MISSING, () -> x.build(1, 11));
        for (int key = 1; key < 11; key++) {
            Check.same("key " + key + " is what it was", x.build(0, key), 0L);
        }
    }

    private static void wasNothing() {
        for (int key = 0; key < 12; key++) {
            int k = key;
            Twin.refused(TraceBuilder::new, "new: remove(" + k + ")", Check.MISSING,
                    x -> x.remove(k));
        }
        Twin.refused(Made::mixed, "remove(5)", Check.MISSING, x -> x.remove(5));
        Twin.refused(() -> without(0), "an input removed again", Check.MISSING, x -> x.remove(0));
        Twin.refused(() -> without(2), "a task removed again", Check.MISSING, x -> x.remove(2));
    }

    private static TraceBuilder without(int key) {
        TraceBuilder x = Made.mixed();
        x.remove(key);
        return x;
    }

    private static void allGo() {
        TraceBuilder x = Made.fullOfOneKey();
        x.build(1, 1);
        x.remove(1);
        Check.noTrace("the one key", x, 0, 1);
        Check.noTrace("the one key", x, 1, 1);
        Check.cache("the one key", x);
        x.task(1, Made.SUM, 0, -1, -1);
        Check.same("set as it was: nothing is left", x.stale(0, 1), true);
        TraceBuilder y = Made.full();
        y.remove(11);
        Check.cache("the oldest", y, 1, 1, 1, 1, 1, 1, 1, 1, 1, 1, 1, 1, 1, 1, 1);
    }

    private static void othersStay() {
        TraceBuilder x = Made.full();
        x.remove(0);
        Check.trace("the sum of it", x, 0, 1, 15L, 0, 15L);
        Check.cache("the sums of it", x, 11, 1, 1, 1, 1, 1, 1, 1, 1, 1, 1, 1, 1, 1, 1, 1);
        Check.thrown("the sum of it", Check.MISSING, () -> x.build(0, 1));
        Check.trace("the sum of it, still", x, 0, 1, 15L, 0, 15L);
    }
}
