/** The boundary cases of promises 8 and 9. */
public final class BoundsOfTraceTest {
    private static final int[] FAR = {Integer.MIN_VALUE, Integer.MAX_VALUE};

    public static void main(String[] args) {
        Check.sentence("Bad: a worker or a key too small or too large; it comes first",
                BoundsOfTraceTest::bad);
        Check.sentence("how many keys it has (i = -1): none, one, two, three",
                BoundsOfTraceTest::sizes);
        Check.sentence("or the number of its key i, from 0 on: the first and the last",
                BoundsOfTraceTest::ends);
        Check.sentence("No such i: NoSuchElementException", BoundsOfTraceTest::noSuchPlace);
        Check.sentence("No TRACE: NoSuchElementException", BoundsOfTraceTest::noTrace);
        Check.sentence("The worker's TRACE: each has its own", BoundsOfTraceTest::eachItsOwn);
        Check.sentence("each key once, where it was first asked for", BoundsOfTraceTest::once);
        Check.sentence("the value that came of it: any long", BoundsOfTraceTest::farValues);
        Check.finish();
    }

    private static void bad() {
        int[][] numbers = {{-1, 2}, {2, 2}, {0, -1}, {0, 12}, {1, -1}, {1, 12}, {-1, 12}, {2, -1},
            {-1, 5}, {2, 5}, {FAR[0], 2}, {FAR[1], 2}, {0, FAR[0]}, {0, FAR[1]}, {0, 14}};
        int[] places = {-1, 0, -2, 3};
        for (int[] pair : numbers) {
            for (int i : places) {
                String what = "(" + pair[0] + ", " + pair[1] + ", " + i + ")";
                Twin.refused(Made::mixed, "trace" + what, Check.BAD,
                        x -> x.trace(pair[0], pair[1], i));
                Twin.refused(Made::mixed, "traced" + what, Check.BAD,
                        x -> x.traced(pair[0], pair[1], i));
            }
        }
    }

    /** Keys 0 to 2 are 10 to 12; keys 4 to 7 are sums of none to three of them. */
    private static TraceBuilder sums() {
        TraceBuilder x = new TraceBuilder();
        for (int key = 0; key < 3; key++) {
            x.input(key, 10L + key);
        }
        x.task(4, Made.SUM, -1, -1, -1);
        x.task(5, Made.SUM, 2, -1, -1);
        x.task(6, Made.SUM, 2, 1, -1);
        x.task(7, Made.SUM, 2, 1, 0);
        for (int key = 4; key < 8; key++) {
            x.build(0, key);
        }
        return x;
    }

    private static void sizes() {
        TraceBuilder x = sums();
        long[] values = {0L, 12L, 23L, 33L};
        for (int size = 0; size < 4; size++) {
            Check.same("trace of " + size, x.trace(0, 4 + size, -1), size);
            Check.same("traced of " + size, x.traced(0, 4 + size, -1), values[size]);
        }
    }

    private static void ends() {
        TraceBuilder x = sums();
        for (int size = 1; size < 4; size++) {
            Check.same("first key", x.trace(0, 4 + size, 0), 2);
            Check.same("first value", x.traced(0, 4 + size, 0), 12L);
            Check.same("last key", x.trace(0, 4 + size, size - 1), 3 - size);
            Check.same("last value", x.traced(0, 4 + size, size - 1), 13L - size);
        }
    }

    private static void noSuchPlace() {
        for (int size = 0; size < 4; size++) {
            int key = 4 + size;
            int[] places = {size, size + 1, 3, 12, -2, -3, FAR[0], FAR[1]};
            for (int i : places) {
                String what = "(0, " + key + ", " + i + ")";
                Twin.refused(BoundsOfTraceTest::sums, "trace" + what, Check.MISSING,
                        x -> x.trace(0, key, i));
                Twin.refused(BoundsOfTraceTest::sums, "traced" + what, Check.MISSING,
                        x -> x.traced(0, key, i));
            }
        }
    }

    /** The keys are an input, a task of the other worker alone, one that threw, and nothing. */
    private static void noTrace() {
        int[] keys = {0, 7, 9, 3};
        int[] places = {-1, 0, -2, 1, FAR[0], FAR[1]};
        for (int key : keys) {
            for (int i : places) {
                TraceBuilder x = sums();
                x.task(9, Made.GREATEST, -1, -1, -1);
                Check.thrown("it threw", Check.MISSING, () -> x.build(1, 9));
                String what = "(1, " + key + ", " + i + ")";
                Check.thrown("trace" + what, Check.MISSING, () -> x.trace(1, key, i));
                Check.thrown("traced" + what, Check.MISSING, () -> x.traced(1, key, i));
            }
        }
    }

    private static void eachItsOwn() {
        TraceBuilder x = sums();
        x.build(1, 5);
        x.input(2, 50L);
        x.build(1, 5);
        Check.trace("worker 0", x, 0, 5, 12L, 2, 12L);
        Check.trace("worker 1", x, 1, 5, 50L, 2, 50L);
        x.input(2, 12L);
        x.build(1, 5);
        Check.trace("worker 1 took the older one", x, 1, 5, 12L, 2, 12L);
    }

    private static void once() {
        TraceBuilder x = sums();
        int[][] parts = {{1, 1, 1}, {1, 1, 0}, {1, 0, 1}, {0, 1, 1}};
        int[][] keys = {{1}, {1, 0}, {1, 0}, {0, 1}};
        for (int i = 0; i < parts.length; i++) {
            x.task(8, Made.SUM, parts[i][0], parts[i][1], parts[i][2]);
            x.build(0, 8);
            Check.same("how many", x.trace(0, 8, -1), keys[i].length);
            for (int place = 0; place < keys[i].length; place++) {
                Check.same("key", x.trace(0, 8, place), keys[i][place]);
                Check.same("value", x.traced(0, 8, place), 10L + keys[i][place]);
            }
        }
        x.task(8, Made.UNTIL, 1, 0, -1);
        x.build(0, 8);
        Check.trace("until asks three times", x, 0, 8, 41L, 1, 11L, 0, 10L);
        x.input(1, 12L);
        x.build(0, 8);
        Check.trace("until asks no more", x, 0, 8, 12L, 1, 12L);
    }

    private static void farValues() {
        long[] values = {Long.MIN_VALUE, Long.MAX_VALUE, 1L << 32, -1L, 0L};
        for (long value : values) {
            TraceBuilder x = new TraceBuilder();
            x.input(0, value);
            x.task(1, Made.SUM, 0, -1, -1);
            x.build(0, 1);
            Check.same("traced(0, 1, 0)", x.traced(0, 1, 0), value);
            Check.same("traced(0, 1, -1)", x.traced(0, 1, -1), value);
        }
    }
}
