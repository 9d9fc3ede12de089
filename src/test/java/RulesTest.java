/** The rules of promise 5: what comes of each, how much it asks, and what it throws. */
public final class RulesTest {
    private static final long LEAST = Long.MIN_VALUE;
    private static final long MOST = Long.MAX_VALUE;

    public static void main(String[] args) {
        sumAndProduct();
        choice();
        quotientAndRest();
        pointer();
        greatest();
        until();
        steady();
        limit();
        Check.finish();
    }

    /** Sets inputs 0, 1, 2 to the values and builds a task on them, as many as there are. */
    private static TraceBuilder prepared(int rule, long... values) {
        TraceBuilder x = new TraceBuilder();
        for (int key = 0; key < values.length; key++) {
            x.input(key, values[key]);
        }
        int parts = Math.min(values.length, 3);
        x.task(11, rule, parts > 0 ? 0 : -1, parts > 1 ? 1 : -1, parts > 2 ? 2 : -1);
        return x;
    }

    private static void due(String what, long value, int asks, int rule, long... values) {
        TraceBuilder x = prepared(rule, values);
        Check.same(what, x.build(0, 11), value);
        Check.counts(what, x, asks, 0, 0, 1, 0, 1, 0, 1, 1, 0, 0);
    }

    private static void throwing(String what, Class<? extends RuntimeException> due, int asks,
            int rule, long... values) {
        TraceBuilder x = prepared(rule, values);
        Check.thrown(what, due, () -> x.build(0, 11));
        Check.counts(what, x, asks, 0, 0, 0, 1, 1, 1, 0, 0, 0, 0);
        Check.thrown(what + ", stale", due, () -> x.stale(0, 11));
    }

    private static void sumAndProduct() {
        due("sum of none", 0L, 0, 0);
        due("sum of one", -4L, 1, 0, -4L);
        due("sum of three", 9L, 3, 0, 2L, 3L, 4L);
        due("sum wraps", LEAST, 2, 0, MOST, 1L);
        due("product of none", 1L, 0, 1);
        due("product of one", -4L, 1, 1, -4L);
        due("product of three", 24L, 3, 1, 2L, 3L, 4L);
        due("product asks on behind 0", 0L, 3, 1, 0L, 3L, 4L);
        due("product wraps", -2L, 2, 1, MOST, 2L);
        TraceBuilder x = prepared(0, 5L);
        x.task(11, 0, 0, 0, 0);
        Check.same("sum of one three times", x.build(0, 11), 15L);
        Check.same("asks of one three times", x.count(0), 3);
    }

    private static void choice() {
        due("choice above 0", 10L, 2, 2, 1L, 10L, 20L);
        due("choice at 0", 20L, 2, 2, 0L, 10L, 20L);
        due("choice below 0", 20L, 2, 2, LEAST, 10L, 20L);
        due("choice far above 0", 10L, 2, 2, 1L << 32, 10L, 20L);
        TraceBuilder x = prepared(2, 1L, 10L, 20L);
        x.remove(2);
        Check.same("choice does not ask for the other", x.build(0, 11), 10L);
    }

    private static void quotientAndRest() {
        due("7 / 2", 3L, 2, 3, 7L, 2L);
        due("-7 / 2", -3L, 2, 3, -7L, 2L);
        due("7 / -2", -3L, 2, 3, 7L, -2L);
        due("least / -1", LEAST, 2, 3, LEAST, -1L);
        due("quotient without its third", 3L, 2, 3, 7L, 2L, 0L);
        throwing("7 / 0", Check.ARITHMETIC, 2, 3, 7L, 0L);
        throwing("0 / 0", Check.ARITHMETIC, 2, 3, 0L, 0L);
        due("7 % 3", 1L, 2, 5, 7L, 3L);
        due("-7 % 3", -1L, 2, 5, -7L, 3L);
        due("7 % -3", 1L, 2, 5, 7L, -3L);
        due("least % -1", 0L, 2, 5, LEAST, -1L);
        throwing("7 % 0", Check.ARITHMETIC, 2, 5, 7L, 0L);
    }

    private static void pointer() {
        due("pointer", 20L, 2, 4, 1L, 20L);
        due("pointer to itself's first", 12L, 2, 4, 12L);
        due("pointer from below 0", 20L, 2, 4, -11L, 20L);
        due("pointer far below 0", 40L, 2, 4, LEAST, 0L, 0L, 0L, 40L);
        due("pointer far above", 77L, 2, 4, MOST, 1L, 2L, 3L, 4L, 5L, 6L, 77L);
        throwing("pointer to nothing", Check.MISSING, 2, 4, 3L);
        TraceBuilder x = prepared(4, -1L);
        Check.thrown("pointer to itself", Check.STATE, () -> x.build(0, 11));
        Check.counts("pointer to itself", x, 2, 0, 0, 0, 1, 1, 1, 0, 0, 0, 1);
    }

    private static void greatest() {
        throwing("greatest of none", Check.MISSING, 0, 6);
        due("greatest of one", LEAST, 1, 6, LEAST);
        due("greatest first", 9L, 3, 6, 9L, 3L, -4L);
        due("greatest second", 9L, 3, 6, 3L, 9L, 4L);
        due("greatest third", -1L, 3, 6, -3L, -9L, -1L);
        due("greatest of far ones", MOST, 2, 6, LEAST, MOST);
    }

    private static void until() {
        due("until, 0 times", 4L, 1, 7, 4L, 100L);
        due("until, once", 105L, 2, 7, 5L, 100L);
        due("until, twice", 206L, 3, 7, 6L, 100L);
        due("until, three times", 307L, 4, 7, 7L, 100L);
        due("until, below 0", 299L, 4, 7, -1L, 100L);
        due("until, least", LEAST, 1, 7, LEAST, 100L);
        due("until counts by the first value alone", 2L, 2, 7, 1L, 1L);
        due("until wraps", LEAST + 2L, 4, 7, MOST, 1L);
        TraceBuilder x = prepared(7, 4L, 100L);
        x.remove(1);
        Check.same("until 0 times does not ask for the second", x.build(0, 11), 4L);
        x.input(0, 5L);
        Check.thrown("until once asks for it", Check.MISSING, () -> x.build(0, 11));
    }

    private static void steady() {
        due("steady", 7L, 1, 8, 3L);
        due("steady asks for the first alone", 7L, 1, 8, 3L, 4L, 5L);
        TraceBuilder x = prepared(8, 3L);
        x.remove(0);
        Check.thrown("steady on nothing", Check.MISSING, () -> x.build(0, 11));
    }

    private static void limit() {
        due("limit below", 3L, 2, 9, 3L, 4L);
        due("limit at it", 4L, 2, 9, 4L, 4L);
        due("limit far below", LEAST, 2, 9, LEAST, MOST);
        throwing("limit above", Check.STATE, 2, 9, 5L, 4L);
        throwing("limit far above", Check.STATE, 2, 9, MOST, LEAST);
        TraceBuilder x = prepared(9, 5L, 4L);
        x.remove(1);
        Check.thrown("limit: the second is asked for first", Check.MISSING, () -> x.build(0, 11));
    }
}
