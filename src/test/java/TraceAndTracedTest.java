/** Promises 8 and 9. */
public final class TraceAndTracedTest {
    public static void main(String[] args) {
        orderAndOnce();
        noKeys();
        latestRunAlone();
        wrongPlaces();
        badNumbersComeFirst();
        Check.finish();
    }

    private static void orderAndOnce() {
        TraceBuilder x = inputs();
        x.task(5, 0, 2, 0, 2);
        x.build(1, 5);
        Check.trace("2, 0, 2", x, 1, 5, 61L, 2, 30L, 0, 1L);
        Check.noTrace("the other worker", x, 0, 5);
        x.task(5, 0, 0, 2, 2);
        x.build(1, 5);
        Check.trace("0, 2, 2", x, 1, 5, 61L, 0, 1L, 2, 30L);
        x.task(5, 0, 2, 1, 0);
        x.build(0, 5);
        Check.trace("2, 1, 0", x, 0, 5, 51L, 2, 30L, 1, 20L, 0, 1L);
        x.task(6, 7, 3, 1, 0);
        Check.same("until", x.build(0, 6), 63L);
        Check.trace("until", x, 0, 6, 63L, 3, 3L, 1, 20L);
        x.task(6, 4, 0, -1, -1);
        x.build(0, 6);
        Check.trace("pointer", x, 0, 6, 20L, 0, 1L, 1, 20L);
        x.input(0, 0L);
        x.build(0, 6);
        Check.trace("pointer to what it asked first", x, 0, 6, 0L, 0, 0L);
        x.task(7, 8, 1, 2, 3);
        x.build(0, 7);
        Check.trace("steady", x, 0, 7, 7L, 1, 20L);
    }

    private static void noKeys() {
        TraceBuilder x = new TraceBuilder();
        x.task(0, 1, -1, -1, -1);
        x.build(0, 0);
        Check.trace("product without parts", x, 0, 0, 1L);
        Check.thrown("trace(0, 0, 0)", Check.MISSING, () -> x.trace(0, 0, 0));
        Check.thrown("traced(0, 0, 0)", Check.MISSING, () -> x.traced(0, 0, 0));
    }

    private static void latestRunAlone() {
        TraceBuilder x = inputs();
        x.task(5, 2, 0, 1, 2);
        x.build(0, 5);
        Check.trace("choice, first", x, 0, 5, 20L, 0, 1L, 1, 20L);
        x.input(0, -1L);
        Check.trace("choice, before the second build", x, 0, 5, 20L, 0, 1L, 1, 20L);
        x.build(0, 5);
        Check.trace("choice, second", x, 0, 5, 30L, 0, -1L, 2, 30L);
    }

    private static void wrongPlaces() {
        TraceBuilder x = inputs();
        x.task(5, 0, 0, 1, -1);
        x.build(0, 5);
        int[] places = {2, 3, -2, Integer.MIN_VALUE, Integer.MAX_VALUE};
        for (int i : places) {
            Check.thrown("trace at " + i, Check.MISSING, () -> x.trace(0, 5, i));
            Check.thrown("traced at " + i, Check.MISSING, () -> x.traced(0, 5, i));
        }
    }

    private static void badNumbersComeFirst() {
        TraceBuilder x = inputs();
        int[][] bad = {{-1, 0}, {2, 0}, {0, -1}, {0, 12}, {1, Integer.MAX_VALUE},
            {Integer.MIN_VALUE, 0}};
        for (int[] pair : bad) {
            for (int i = -2; i < 2; i++) {
                int place = i;
                Check.thrown("trace of bad", Check.BAD, () -> x.trace(pair[0], pair[1], place));
                Check.thrown("traced of bad", Check.BAD, () -> x.traced(pair[0], pair[1], place));
            }
        }
    }

    private static TraceBuilder inputs() {
        TraceBuilder x = new TraceBuilder();
        x.input(0, 1L);
        x.input(1, 20L);
        x.input(2, 30L);
        x.input(3, 3L);
        return x;
    }
}
