/** Promise 2. */
public final class InputTest {
    public static void main(String[] args) {
        valuesAreKept();
        sameValueDoesNothing();
        otherValueLeavesTracesOfOthers();
        taskBecomesInput();
        badKeys();
        Check.finish();
    }

    private static void valuesAreKept() {
        TraceBuilder x = new TraceBuilder();
        long[] values = {0L, -1L, 1L, Long.MIN_VALUE, Long.MAX_VALUE, 1L << 40};
        for (int key = 0; key < 12; key++) {
            long value = values[key % values.length];
            x.input(key, value);
            Check.same("input " + key, x.build(key % 2, key), value);
        }
        Check.counts("inputs alone", x, 0, 0, 0, 0, 0, 12, 0, 0, 0, 0, 0);
        Check.noTrace("an input", x, 0, 0);
    }

    private static void sameValueDoesNothing() {
        TraceBuilder x = summed();
        x.input(0, 5L);
        Check.same("same value: stale", x.stale(0, 1), false);
        Check.cache("same value", x, 1);
        Check.trace("same value", x, 0, 1, 5L, 0, 5L);
    }

    private static void otherValueLeavesTracesOfOthers() {
        TraceBuilder x = summed();
        x.input(0, 6L);
        Check.trace("other value", x, 0, 1, 5L, 0, 5L);
        Check.cache("other value", x, 1);
        Check.same("other value: stale", x.stale(0, 1), true);
        Check.same("other value: build", x.build(0, 1), 6L);
        Check.cache("other value, built", x, 1, 1);
    }

    private static void taskBecomesInput() {
        TraceBuilder x = summed();
        x.build(1, 1);
        x.input(1, 5L);
        Check.noTrace("task set to an input", x, 0, 1);
        Check.noTrace("task set to an input", x, 1, 1);
        Check.cache("task set to an input", x);
        Check.same("task set to an input", x.build(0, 1), 5L);
        x.task(1, 0, 0, -1, -1);
        Check.same("back to the task: stale", x.stale(0, 1), true);
    }

    private static TraceBuilder summed() {
        TraceBuilder x = new TraceBuilder();
        x.input(0, 5L);
        x.task(1, 0, 0, -1, -1);
        x.build(0, 1);
        return x;
    }

    private static void badKeys() {
        TraceBuilder x = new TraceBuilder();
        int[] keys = {-1, 12, Integer.MIN_VALUE, Integer.MAX_VALUE};
        for (int key : keys) {
            Check.thrown("input(" + key + ")", Check.BAD, () -> x.input(key, 1L));
        }
        for (int key = 0; key < 12; key++) {
            int k = key;
            Check.thrown("still nothing: " + k, Check.MISSING, () -> x.remove(k));
        }
    }
}
