/** The boundary cases of promise 7. */
public final class BoundsOfShrinkTest {
    public static void main(String[] args) {
        Check.sentence("n entries (0 .. 16): too small or too large", BoundsOfShrinkTest::badSizes);
        Check.sentence("Answers how many went: of none", BoundsOfShrinkTest::empty);
        Check.sentence("cut to its newest n entries: it has as many or fewer",
                BoundsOfShrinkTest::nothingToCut);
        Check.sentence("cut to its newest n entries: one less, all but one, none",
                BoundsOfShrinkTest::cuts);
        Check.sentence("cut to its newest n entries: the workers' TRACES stay",
                BoundsOfShrinkTest::tracesStay);
        Check.sentence("THE CACHE of at most 16 entries: it fills up again behind a cut",
                BoundsOfShrinkTest::fillsUpAgain);
        Check.finish();
    }

    private static void badSizes() {
        int[] sizes = {-1, 17, Integer.MIN_VALUE, Integer.MAX_VALUE};
        for (int n : sizes) {
            Twin.refused(Made::full, "full: shrink(" + n + ")", Check.BAD, x -> x.shrink(n));
            Twin.refused(Made::mixed, "mixed: shrink(" + n + ")", Check.BAD, x -> x.shrink(n));
            Twin.refused(TraceBuilder::new, "new: shrink(" + n + ")", Check.BAD, x -> x.shrink(n));
        }
    }

    private static void empty() {
        for (int size = 0; size <= 16; size++) {
            int n = size;
            Twin.unchanged(TraceBuilder::new, "shrink(" + n + ")",
                    x -> Check.same("shrink(" + n + ")", x.shrink(n), 0));
        }
    }

    private static void nothingToCut() {
        Twin.unchanged(Made::full, "16 of 16", x -> Check.same("16 of 16", x.shrink(16), 0));
        int entries = Made.mixed().count(7);
        for (int size = entries; size <= 16; size++) {
            int n = size;
            Twin.unchanged(Made::mixed, "shrink(" + n + ")",
                    x -> Check.same("shrink(" + n + ")", x.shrink(n), 0));
        }
    }

    private static void cuts() {
        TraceBuilder x = Made.twelveTraces();
        x.input(0, 1L);
        Check.cache("eleven", x, 1, 2, 3, 4, 5, 6, 7, 8, 9, 10, 11);
        Check.same("to 10", x.shrink(10), 1);
        Check.cache("to 10", x, 2, 3, 4, 5, 6, 7, 8, 9, 10, 11);
        Check.same("to 1", x.shrink(1), 9);
        Check.cache("to 1", x, 11);
        Check.same("to 0", x.shrink(0), 1);
        Check.cache("to 0", x);
        Check.same("15 of 16", Made.full().shrink(15), 1);
        Check.same("1 of 16", Made.full().shrink(1), 15);
        Check.same("0 of 16", Made.full().shrink(0), 16);
    }

    private static void tracesStay() {
        TraceBuilder x = Made.full();
        x.build(1, 11);
        x.shrink(0);
        Check.trace("worker 0", x, 0, 1, 15L, 0, 15L);
        Check.trace("worker 1", x, 1, 11, 0L);
        Check.counts("to 0", x, 15, 0, 1, 16, 0, 17, 0, 0, 2, 1, 0);
        Check.same("they are still good", x.stale(0, 1), false);
        Check.same("the other worker has nothing to take", x.stale(1, 1), true);
    }

    private static void fillsUpAgain() {
        TraceBuilder x = Made.full();
        x.shrink(1);
        for (int value = 16; value <= 30; value++) {
            x.input(0, value);
            x.build(0, 1);
        }
        Check.same("sixteen again", x.count(7), 16);
        x.input(0, 15L);
        Check.same("the one that was left", x.stale(1, 1), false);
        x.input(0, 14L);
        Check.same("one that went", x.stale(1, 1), true);
        x.input(0, 31L);
        x.build(0, 1);
        x.input(0, 15L);
        Check.same("the one that was left goes at 16", x.stale(1, 1), true);
    }
}
