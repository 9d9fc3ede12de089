/** The boundary cases of promise 2. */
public final class BoundsOfInputTest {
    public static void main(String[] args) {
        Check.sentence("The key (0 .. 11): too small or too large", BoundsOfInputTest::badKeys);
        Check.sentence("The key (0 .. 11): the first and the last", BoundsOfInputTest::endKeys);
        Check.sentence("an INPUT with the value: any long", BoundsOfInputTest::farValues);
        Check.sentence("If it was one with that value already, nothing is done at all",
                BoundsOfInputTest::sameValue);
        Check.sentence("If it was one: NOTHING was none, whatever it had been before",
                BoundsOfInputTest::nothingIsNoInput);
        Check.sentence("If it was one: a TASK was none, whatever its value",
                BoundsOfInputTest::taskIsNoInput);
        Check.sentence("with that value: the next value is another", BoundsOfInputTest::nextValue);
        Check.finish();
    }

    private static void badKeys() {
        int[] keys = {-1, 12, -12, 24, Integer.MIN_VALUE, Integer.MAX_VALUE};
        for (int key : keys) {
            Twin.refused(Made::mixed, "input(" + key + ", 5)", Check.BAD, x -> x.input(key, 5L));
            Twin.refused(TraceBuilder::new, "input(" + key + ", 0)", Check.BAD,
                    x -> x.input(key, 0L));
        }
    }

    private static void endKeys() {
        TraceBuilder x = new TraceBuilder();
        x.input(0, 40L);
        x.input(11, 50L);
        Check.same("key 0", x.build(0, 0), 40L);
        Check.same("key 11", x.build(1, 11), 50L);
        for (int key = 1; key < 11; key++) {
            int k = key;
            Check.thrown("key " + k + " is still nothing", Check.MISSING, () -> x.build(0, k));
        }
    }

    private static void farValues() {
        long[] values = {0L, 1L, -1L, 1L << 31, -(1L << 31) - 1L, 1L << 32, Long.MAX_VALUE,
            Long.MIN_VALUE};
        TraceBuilder x = new TraceBuilder();
        x.task(1, Made.SUM, 0, -1, -1);
        for (long value : values) {
            x.input(0, value);
            Check.same("the input", x.build(0, 0), value);
            Check.same("a task of it", x.build(1, 1), value);
            Check.trace("a task of it", x, 1, 1, value, 0, value);
        }
    }

    private static void sameValue() {
        Twin.unchanged(Made::mixed, "input(0, 7)", x -> x.input(0, 7L));
        Twin.unchanged(Made::full, "input(0, 15)", x -> x.input(0, 15L));
    }

    private static void nothingIsNoInput() {
        TraceBuilder x = new TraceBuilder();
        x.input(0, 0L);
        Check.same("0 on a new object", x.build(0, 0), 0L);
        x.input(3, 5L);
        x.remove(3);
        x.input(3, 5L);
        Check.same("5, removed, 5", x.build(0, 3), 5L);
    }

    private static void taskIsNoInput() {
        TraceBuilder x = new TraceBuilder();
        x.input(0, 5L);
        x.task(0, Made.STEADY, 1, -1, -1);
        x.input(0, 5L);
        Check.same("5, a task, 5", x.build(0, 0), 5L);
        TraceBuilder y = Made.fullOfOneKey();
        y.build(1, 1);
        y.input(1, 16L);
        Check.noTrace("a task worth 16 set to 16", y, 0, 1);
        Check.noTrace("a task worth 16 set to 16", y, 1, 1);
        Check.cache("a task worth 16 set to 16", y);
        Check.same("a task worth 16 set to 16", y.build(0, 1), 16L);
    }

    private static void nextValue() {
        long[] pairs = {0L, 1L, -1L, 0L, 5L, 5L + (1L << 32), Long.MAX_VALUE, Long.MIN_VALUE};
        for (int i = 0; i < pairs.length; i += 2) {
            TraceBuilder x = new TraceBuilder();
            x.input(0, pairs[i]);
            x.input(0, pairs[i + 1]);
            Check.same("the second value", x.build(0, 0), pairs[i + 1]);
        }
    }
}
