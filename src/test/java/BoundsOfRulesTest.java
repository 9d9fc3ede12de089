/** The boundary cases of the rules, in the order of 'Terms'. */
public final class BoundsOfRulesTest {
    private static final long LEAST = Long.MIN_VALUE;
    private static final long MOST = Long.MAX_VALUE;
    private static final int TASK = 11;

    public static void main(String[] args) {
        sumsAndProducts();
        choices();
        quotientsAndRests();
        pointers();
        greatest();
        untils();
        steady();
        limits();
        Check.sentence("one key may be asked for several times", BoundsOfRulesTest::severalTimes);
        Check.finish();
    }

    /** Inputs 0, 1, .. with the values, and in key 11 a task of the first three of them. */
    private static TraceBuilder made(int rule, long... values) {
        TraceBuilder x = new TraceBuilder();
        for (int key = 0; key < values.length; key++) {
            x.input(key, values[key]);
        }
        int given = values.length;
        x.task(TASK, rule, given > 0 ? 0 : -1, given > 1 ? 1 : -1, given > 2 ? 2 : -1);
        return x;
    }

    private static void due(long value, int asks, int rule, long... values) {
        TraceBuilder x = made(rule, values);
        String what = "rule " + rule + " of " + java.util.Arrays.toString(values);
        Check.same(what, x.build(0, TASK), value);
        Check.same(what + ": asks", x.count(0), asks);
        Check.same(what + ": value of the trace", x.traced(0, TASK, -1), value);
    }

    private static void thrown(Class<? extends RuntimeException> due, int asks, int rule,
            long... values) {
        TraceBuilder x = made(rule, values);
        String what = "rule " + rule + " of " + java.util.Arrays.toString(values);
        Check.thrown(what, due, () -> x.build(0, TASK));
        Check.same(what + ": asks", x.count(0), asks);
        Check.same(what + ": runs that threw", x.count(4), 1);
        Check.same(what + ": circles", x.count(10), 0);
        Check.noTrace(what, x, 0, TASK);
        Check.cache(what, x);
    }

    private static void sumsAndProducts() {
        Check.sentence("SUM: the sum of the parts' values, without parts", () -> {
            due(0L, 0, Made.SUM);
        });
        Check.sentence("SUM: values are longs, wrapping", () -> {
            due(LEAST, 2, Made.SUM, MOST, 1L);
            due(MOST, 2, Made.SUM, LEAST, -1L);
            due(0L, 2, Made.SUM, LEAST, LEAST);
            due(MOST, 3, Made.SUM, MOST, MOST, LEAST + 1L);
            due(1L << 31, 2, Made.SUM, (1L << 31) - 1L, 1L);
        });
        Check.sentence("PRODUCT likewise (1 without parts)", () -> {
            due(1L, 0, Made.PRODUCT);
        });
        Check.sentence("PRODUCT: values are longs, wrapping", () -> {
            due(-2L, 2, Made.PRODUCT, MOST, 2L);
            due(LEAST, 2, Made.PRODUCT, LEAST, -1L);
            due(0L, 2, Made.PRODUCT, LEAST, 2L);
            due(0L, 2, Made.PRODUCT, 1L << 32, 1L << 32);
            due(1L << 32, 2, Made.PRODUCT, 1L << 16, 1L << 16);
        });
        Check.sentence("each asked in order: behind a 0 too", () -> {
            due(0L, 3, Made.PRODUCT, 0L, 3L, 4L);
        });
    }

    private static void choices() {
        Check.sentence("CHOICE: the first's is above 0: the second's", () -> {
            due(20L, 2, Made.CHOICE, 1L, 20L, 30L);
            due(20L, 2, Made.CHOICE, MOST, 20L, 30L);
            due(20L, 2, Made.CHOICE, 1L << 31, 20L, 30L);
            due(20L, 2, Made.CHOICE, 1L << 32, 20L, 30L);
        });
        Check.sentence("CHOICE: else the third's", () -> {
            due(30L, 2, Made.CHOICE, 0L, 20L, 30L);
            due(30L, 2, Made.CHOICE, -1L, 20L, 30L);
            due(30L, 2, Made.CHOICE, LEAST, 20L, 30L);
            due(30L, 2, Made.CHOICE, LEAST + 1L, 20L, 30L);
        });
        Check.sentence("CHOICE: the one that is not chosen is not asked for", () -> {
            TraceBuilder x = made(Made.CHOICE, 1L, 20L, 30L);
            x.remove(2);
            Check.same("no third", x.build(0, TASK), 20L);
            x.input(0, 0L);
            Check.thrown("no third", Check.MISSING, () -> x.build(0, TASK));
            x.input(2, 30L);
            x.remove(1);
            Check.same("no second", x.build(0, TASK), 30L);
        });
    }

    private static void quotientsAndRests() {
        Check.sentence("QUOTIENT: divided towards zero", () -> {
            due(3L, 2, Made.QUOTIENT, 7L, 2L);
            due(-3L, 2, Made.QUOTIENT, -7L, 2L);
            due(-3L, 2, Made.QUOTIENT, 7L, -2L);
            due(3L, 2, Made.QUOTIENT, -7L, -2L);
            due(0L, 2, Made.QUOTIENT, -1L, 2L);
            due(0L, 2, Made.QUOTIENT, 0L, 5L);
        });
        Check.sentence("QUOTIENT: wrapping", () -> due(LEAST, 2, Made.QUOTIENT, LEAST, -1L));
        Check.sentence("QUOTIENT: by 0: ArithmeticException", () -> {
            thrown(Check.ARITHMETIC, 2, Made.QUOTIENT, 7L, 0L);
            thrown(Check.ARITHMETIC, 2, Made.QUOTIENT, 0L, 0L);
            thrown(Check.ARITHMETIC, 2, Made.QUOTIENT, LEAST, 0L, 5L);
            due(0L, 2, Made.QUOTIENT, 5L, 1L << 32);
        });
        Check.sentence("REST: modulo as Java's %", () -> {
            due(1L, 2, Made.REST, 7L, 3L);
            due(-1L, 2, Made.REST, -7L, 3L);
            due(1L, 2, Made.REST, 7L, -3L);
            due(-1L, 2, Made.REST, -7L, -3L);
            due(0L, 2, Made.REST, -6L, 3L);
            due(0L, 2, Made.REST, LEAST, -1L);
            due(-1L, 2, Made.REST, LEAST, MOST);
        });
        Check.sentence("REST: by 0: ArithmeticException", () -> {
            thrown(Check.ARITHMETIC, 2, Made.REST, 7L, 0L);
            thrown(Check.ARITHMETIC, 2, Made.REST, 0L, 0L);
            due(5L, 2, Made.REST, 5L, 1L << 32);
        });
    }

    private static void pointers() {
        Check.sentence("POINTER: the first's modulo 12 (from 0 on)", () -> {
            pointed(0L, 0);
            pointed(1L, 1);
            pointed(10L, 10);
            pointed(12L, 0);
            pointed(13L, 1);
            pointed(-2L, 10);
            pointed(-12L, 0);
            pointed(-11L, 1);
            pointed(MOST, 7);
            pointed(LEAST, 4);
            pointed(1L << 32, 4);
        });
        Check.sentence("POINTER: to itself is a CIRCLE", () -> {
            long[] toItself = {11L, -1L, 23L, -13L};
            for (long value : toItself) {
                TraceBuilder x = made(Made.POINTER, value);
                Check.thrown("pointer " + value, Check.STATE, () -> x.build(0, TASK));
                Check.counts("pointer " + value, x, 2, 0, 0, 0, 1, 1, 1, 0, 0, 0, 1);
            }
        });
        Check.sentence("POINTER: to NOTHING", () -> {
            thrown(Check.MISSING, 2, Made.POINTER, 5L);
            thrown(Check.MISSING, 2, Made.POINTER, -7L);
        });
    }

    /** Keys 1 to 10 are 101 to 110; key 0 holds the pointer, so pointing there answers it. */
    private static void pointed(long value, int key) {
        TraceBuilder x = made(Made.POINTER, value);
        for (int other = 1; other < TASK; other++) {
            x.input(other, 100L + other);
        }
        Check.same("pointer " + value, x.build(0, TASK), key == 0 ? value : 100L + key);
        Check.same("pointer " + value + ": asks", x.count(0), 2);
        Check.same("pointer " + value + ": keys", x.trace(0, TASK, -1), key == 0 ? 1 : 2);
    }

    private static void greatest() {
        Check.sentence("GREATEST (without parts: NoSuchElementException)", () -> {
            thrown(Check.MISSING, 0, Made.GREATEST);
        });
        Check.sentence("GREATEST of the parts', one or the least there is", () -> {
            due(LEAST, 1, Made.GREATEST, LEAST);
            due(LEAST, 3, Made.GREATEST, LEAST, LEAST, LEAST);
            due(-1L, 2, Made.GREATEST, -1L, -2L);
            due(-1L, 3, Made.GREATEST, -3L, -2L, -1L);
            due(MOST, 3, Made.GREATEST, LEAST, MOST, 0L);
            due(MOST, 3, Made.GREATEST, MOST, LEAST, 0L);
            due(1L << 32, 2, Made.GREATEST, 1L, 1L << 32);
        });
    }

    private static void untils() {
        Check.sentence("UNTIL: the second's is asked v modulo 4 times (modulo from 0 on)", () -> {
            due(0L, 1, Made.UNTIL, 0L, 100L);
            due(101L, 2, Made.UNTIL, 1L, 100L);
            due(303L, 4, Made.UNTIL, 3L, 100L);
            due(4L, 1, Made.UNTIL, 4L, 100L);
            due(299L, 4, Made.UNTIL, -1L, 100L);
            due(97L, 2, Made.UNTIL, -3L, 100L);
            due(-4L, 1, Made.UNTIL, -4L, 100L);
            due(LEAST, 1, Made.UNTIL, LEAST, 100L);
            due((1L << 32) + 101L, 2, Made.UNTIL, (1L << 32) + 1L, 100L);
        });
        Check.sentence("UNTIL: all added to v, wrapping", () -> {
            due(LEAST + 2L, 4, Made.UNTIL, MOST, 1L);
            due(LEAST + 1L + MOST, 2, Made.UNTIL, LEAST + 1L, MOST);
        });
        Check.sentence("UNTIL: 0 times: the second's is not asked for", () -> {
            TraceBuilder x = made(Made.UNTIL, 4L, 100L);
            x.remove(1);
            Check.same("no second", x.build(0, TASK), 4L);
            Check.trace("no second", x, 0, TASK, 4L, 0, 4L);
            x.input(0, 5L);
            Check.thrown("no second", Check.MISSING, () -> x.build(0, TASK));
        });
    }

    private static void steady() {
        Check.sentence("STEADY: the first's is asked and forgotten; 7", () -> {
            due(7L, 1, Made.STEADY, 0L);
            due(7L, 1, Made.STEADY, LEAST, 1L, 2L);
            TraceBuilder x = made(Made.STEADY, 5L);
            x.build(0, TASK);
            Check.trace("it is in the trace", x, 0, TASK, 7L, 0, 5L);
            x.remove(0);
            Check.thrown("the first is missing", Check.MISSING, () -> x.build(0, TASK));
        });
    }

    private static void limits() {
        Check.sentence("LIMIT: the first's", () -> {
            due(4L, 2, Made.LIMIT, 4L, 5L);
            due(5L, 2, Made.LIMIT, 5L, 5L);
            due(LEAST, 2, Made.LIMIT, LEAST, MOST);
            due(MOST, 2, Made.LIMIT, MOST, MOST);
            due(5L, 2, Made.LIMIT, 5L, 1L << 32, 0L);
        });
        Check.sentence("LIMIT: above the second's: IllegalStateException", () -> {
            thrown(Check.STATE, 2, Made.LIMIT, 6L, 5L);
            thrown(Check.STATE, 2, Made.LIMIT, MOST, LEAST);
            thrown(Check.STATE, 2, Made.LIMIT, -1L, LEAST);
            thrown(Check.STATE, 2, Made.LIMIT, 1L << 32, 5L);
        });
    }

    private static void severalTimes() {
        TraceBuilder x = new TraceBuilder();
        x.input(0, 3L);
        x.task(1, Made.SUM, 0, 0, 0);
        x.task(2, Made.UNTIL, 0, 0, -1);
        x.task(3, Made.QUOTIENT, 0, 0, -1);
        Check.same("sum", x.build(0, 1), 9L);
        Check.trace("sum", x, 0, 1, 9L, 0, 3L);
        Check.same("until", x.build(0, 2), 12L);
        Check.trace("until", x, 0, 2, 12L, 0, 3L);
        Check.same("quotient", x.build(0, 3), 1L);
        Check.trace("quotient", x, 0, 3, 1L, 0, 3L);
        Check.same("asks", x.count(0), 9);
    }
}
