/** The boundary cases of promise 3. */
public final class BoundsOfTaskTest {
    private static final int[] FAR = {Integer.MIN_VALUE, Integer.MAX_VALUE};

    public static void main(String[] args) {
        Check.sentence("The key: too small or too large", BoundsOfTaskTest::badKeys);
        Check.sentence("The key: the first and the last", BoundsOfTaskTest::endKeys);
        Check.sentence("the RULE (0 .. 9): too small or too large", BoundsOfTaskTest::badRules);
        Check.sentence("the RULE (0 .. 9): the first and the last", BoundsOfTaskTest::endRules);
        Check.sentence("the PARTS a, b, c (keys): too small or too large",
                BoundsOfTaskTest::badParts);
        Check.sentence("the PARTS a, b, c (keys): the first and the last",
                BoundsOfTaskTest::endParts);
        Check.sentence("-1 for none, not before one that there is", BoundsOfTaskTest::gaps);
        Check.sentence("as many as the RULE needs: one too few", BoundsOfTaskTest::tooFew);
        Check.sentence("CHOICE needs three PARTS, QUOTIENT, REST, UNTIL and LIMIT two or more,"
                + " POINTER and STEADY one or more", BoundsOfTaskTest::enough);
        Check.sentence("If it was just that already, nothing is done at all",
                BoundsOfTaskTest::sameTask);
        Check.sentence("just that: one number is another", BoundsOfTaskTest::almostTheSame);
        Check.sentence("If it was: NOTHING and INPUTS were not, whatever they had been before",
                BoundsOfTaskTest::noTaskBefore);
        Check.sentence("its TRACES and all entries of THE CACHE for it are gone: all sixteen",
                BoundsOfTaskTest::allEntriesGo);
        Check.finish();
    }

    private static void refused(int key, int rule, int a, int b, int c) {
        String what = "task(" + key + ", " + rule + ", " + a + ", " + b + ", " + c + ")";
        Twin.refused(Made::mixed, what, Check.BAD, x -> x.task(key, rule, a, b, c));
    }

    private static void badKeys() {
        for (int key : FAR) {
            refused(key, Made.SUM, 0, 0, 0);
        }
        refused(-1, Made.SUM, 0, 0, 0);
        refused(12, Made.SUM, 0, 0, 0);
    }

    private static void endKeys() {
        TraceBuilder x = new TraceBuilder();
        x.task(0, Made.PRODUCT, -1, -1, -1);
        x.task(11, Made.SUM, 0, 0, 0);
        Check.same("key 0", x.build(0, 0), 1L);
        Check.same("key 11", x.build(0, 11), 3L);
    }

    private static void badRules() {
        for (int rule : FAR) {
            refused(2, rule, 0, 0, 0);
        }
        refused(2, -1, 0, 0, 0);
        refused(2, 10, 0, 0, 0);
        refused(5, -1, -1, -1, -1);
        refused(5, 10, -1, -1, -1);
    }

    private static void endRules() {
        TraceBuilder x = new TraceBuilder();
        x.input(0, 4L);
        x.task(1, 0, 0, 0, 0);
        x.task(2, 9, 0, 0, 0);
        Check.same("rule 0", x.build(0, 1), 12L);
        Check.same("rule 9", x.build(0, 2), 4L);
    }

    private static void badParts() {
        int[] parts = {-2, 12, Integer.MIN_VALUE, Integer.MAX_VALUE};
        for (int part : parts) {
            refused(2, Made.SUM, part, -1, -1);
            refused(2, Made.SUM, part, 1, 1);
            refused(2, Made.SUM, 1, part, -1);
            refused(2, Made.SUM, 1, part, 1);
            refused(2, Made.SUM, 1, 1, part);
            refused(5, Made.STEADY, 1, part, -1);
            refused(5, Made.STEADY, 1, 1, part);
        }
    }

    private static void endParts() {
        TraceBuilder x = new TraceBuilder();
        x.input(0, 1L);
        x.input(11, 10L);
        x.task(5, Made.SUM, 0, 11, 0);
        Check.same("0, 11, 0", x.build(0, 5), 12L);
        x.task(5, Made.SUM, 11, 0, 11);
        Check.same("11, 0, 11", x.build(0, 5), 21L);
        Check.trace("11, 0, 11", x, 0, 5, 21L, 11, 10L, 0, 1L);
    }

    private static void gaps() {
        for (int rule = 0; rule < 10; rule++) {
            refused(2, rule, -1, 0, -1);
            refused(2, rule, -1, -1, 0);
            refused(2, rule, -1, 0, 1);
            refused(2, rule, 0, -1, 1);
        }
    }

    private static void tooFew() {
        refused(2, Made.CHOICE, 0, 1, -1);
        refused(2, Made.CHOICE, -1, -1, -1);
        int[] two = {Made.QUOTIENT, Made.REST, Made.UNTIL, Made.LIMIT};
        for (int rule : two) {
            refused(2, rule, 0, -1, -1);
            refused(2, rule, -1, -1, -1);
        }
        refused(2, Made.POINTER, -1, -1, -1);
        refused(2, Made.STEADY, -1, -1, -1);
    }

    /** Key 0 is 1, key 1 is 1, so that no rule throws; greatest of none is the one that does. */
    private static void enough() {
        int[] least = {0, 0, 3, 2, 1, 2, 1, 2, 1, 2};
        long[][] due = {{0L, 1L, 2L, 3L}, {1L, 1L, 1L, 1L}, {0L, 0L, 0L, 1L}, {0L, 0L, 1L, 1L},
            {0L, 1L, 1L, 1L}, {0L, 0L, 0L, 0L}, {0L, 1L, 1L, 1L}, {0L, 0L, 2L, 2L},
            {0L, 7L, 7L, 7L}, {0L, 0L, 1L, 1L}};
        for (int rule = 0; rule < 10; rule++) {
            for (int given = least[rule]; given <= 3; given++) {
                TraceBuilder x = new TraceBuilder();
                x.input(0, 1L);
                x.input(1, 1L);
                x.task(9, rule, given > 0 ? 0 : -1, given > 1 ? 1 : -1, given > 2 ? 0 : -1);
                Check.same("rule " + rule + " with " + given, x.build(0, 9), due[rule][given]);
            }
        }
        TraceBuilder x = new TraceBuilder();
        x.task(9, Made.GREATEST, -1, -1, -1);
        x.remove(9);
    }

    private static void sameTask() {
        Twin.unchanged(Made::mixed, "task 2", x -> x.task(2, Made.SUM, 0, 1, -1));
        Twin.unchanged(Made::mixed, "task 4", x -> x.task(4, Made.CHOICE, 0, 3, 5));
        Twin.unchanged(Made::mixed, "task 11", x -> x.task(11, Made.SUM, -1, -1, -1));
        Twin.unchanged(Made::full, "task 1", x -> x.task(1, Made.SUM, 0, -1, -1));
    }

    private static void almostTheSame() {
        int[][] others = {{Made.GREATEST, 0, 1, 2}, {Made.SUM, 3, 1, 2}, {Made.SUM, 0, 3, 2},
            {Made.SUM, 0, 1, 3}, {Made.SUM, 0, 1, -1}, {Made.SUM, 1, 0, 2}};
        for (int[] other : others) {
            TraceBuilder x = inputsFrom0To3();
            x.task(4, Made.SUM, 0, 1, 2);
            goneAfter(x, other);
        }
        TraceBuilder x = inputsFrom0To3();
        x.task(4, Made.SUM, 0, 1, -1);
        goneAfter(x, new int[] {Made.SUM, 0, 1, 2});
        TraceBuilder y = inputsFrom0To3();
        y.task(4, Made.STEADY, 0, 1, 2);
        goneAfter(y, new int[] {Made.STEADY, 0, 1, 3});
    }

    private static void goneAfter(TraceBuilder x, int[] other) {
        x.build(0, 4);
        x.build(1, 4);
        x.task(4, other[0], other[1], other[2], other[3]);
        Check.noTrace("set to almost the same", x, 0, 4);
        Check.noTrace("set to almost the same", x, 1, 4);
        Check.cache("set to almost the same", x);
        Check.same("set to almost the same: stale", x.stale(0, 4), true);
    }

    private static TraceBuilder inputsFrom0To3() {
        TraceBuilder x = new TraceBuilder();
        for (int key = 0; key < 4; key++) {
            x.input(key, 10L + key);
        }
        return x;
    }

    private static void noTaskBefore() {
        TraceBuilder x = new TraceBuilder();
        x.task(1, 0, 0, 0, 0);
        x.input(0, 2L);
        Check.same("all numbers 0 on a new object", x.build(0, 1), 6L);
        x.remove(1);
        x.task(1, 0, 0, 0, 0);
        Check.same("a task, removed, the task", x.build(0, 1), 6L);
        x.input(1, 5L);
        x.task(1, 0, 0, 0, 0);
        Check.same("a task, an input, the task", x.build(0, 1), 6L);
        Check.same("it ran each time", x.count(3), 3);
    }

    private static void allEntriesGo() {
        TraceBuilder x = Made.fullOfOneKey();
        x.task(1, Made.PRODUCT, 0, -1, -1);
        Check.cache("all were for the key", x);
        TraceBuilder y = Made.full();
        y.task(1, Made.PRODUCT, 0, -1, -1);
        Check.cache("all but the oldest", y, 11);
        TraceBuilder z = Made.full();
        z.task(11, Made.PRODUCT, -1, -1, -1);
        Check.cache("the oldest alone", z, 1, 1, 1, 1, 1, 1, 1, 1, 1, 1, 1, 1, 1, 1, 1);
        z.build(0, 11);
        Check.cache("and sixteen again", z, 1, 1, 1, 1, 1, 1, 1, 1, 1, 1, 1, 1, 1, 1, 1, 11);
    }
}
