import java.util.NoSuchElementException;

/** Compares answers with those that are due; finish() ends the test with 1 if one was wrong. */
final class Check {
    static final Class<IllegalArgumentException> BAD = IllegalArgumentException.class;
    static final Class<NoSuchElementException> MISSING = NoSuchElementException.class;
    static final Class<ArithmeticException> ARITHMETIC = ArithmeticException.class;
    static final Class<IllegalStateException> STATE = IllegalStateException.class;

    /** The order of count(what): what 0 to 10. */
    private static final int COUNTS = 11;

    private static int wrong = 0;
    private static String prefix = "";

    private Check() {
    }

    /** A test of one sentence of the document; what it throws unasked is a wrong answer too. */
    static void sentence(String sentence, Runnable test) {
        prefix = "'" + sentence + "': ";
        try {
            test.run();
        } catch (RuntimeException e) {
            report("the test", e.toString(), "no exception");
        }
        prefix = "";
    }

    static void same(String what, long got, long due) {
        if (got != due) {
            report(what, String.valueOf(got), String.valueOf(due));
        }
    }

    static void same(String what, boolean got, boolean due) {
        if (got != due) {
            report(what, String.valueOf(got), String.valueOf(due));
        }
    }

    static void same(String what, String got, String due) {
        if (!got.equals(due)) {
            report(what, got, due);
        }
    }

    /** The call must throw just this class, not one below it. */
    static void thrown(String what, Class<? extends RuntimeException> due, Runnable call) {
        String got = "nothing";
        try {
            call.run();
        } catch (RuntimeException e) {
            got = e.getClass().getName();
        }
        same(what + " throws", got, due.getName());
    }

    /** Compares all eleven counts at once, so that a count that moves unasked is seen as well. */
    static void counts(String what, TraceBuilder x, int... due) {
        same(what + ": counts given", due.length, COUNTS);
        for (int i = 0; i < due.length; i++) {
            same(what + ": count(" + i + ")", x.count(i), due[i]);
        }
    }

    /** Compares the keys of the whole cache, the oldest first. */
    static void cache(String what, TraceBuilder x, int... due) {
        same(what + ": entries", x.count(7), due.length);
        for (int i = 0; i < due.length; i++) {
            same(what + ": cached(" + i + ")", cachedOrMinus(x, i), due[i]);
        }
        thrown(what + ": cached behind the end", MISSING, () -> x.cached(due.length));
    }

    private static int cachedOrMinus(TraceBuilder x, int i) {
        try {
            return x.cached(i);
        } catch (NoSuchElementException e) {
            return -1;
        }
    }

    /** Compares a worker's whole trace of a key: its value, then key and value of each place. */
    static void trace(String what, TraceBuilder x, int worker, int key, long value, long... due) {
        same(what + ": value", x.traced(worker, key, -1), value);
        same(what + ": size", x.trace(worker, key, -1), due.length / 2);
        for (int i = 0; i < due.length / 2 && i < x.trace(worker, key, -1); i++) {
            same(what + ": key " + i, x.trace(worker, key, i), due[2 * i]);
            same(what + ": value " + i, x.traced(worker, key, i), due[2 * i + 1]);
        }
    }

    static void noTrace(String what, TraceBuilder x, int worker, int key) {
        thrown(what + ": trace", MISSING, () -> x.trace(worker, key, -1));
        thrown(what + ": traced", MISSING, () -> x.traced(worker, key, -1));
    }

    static void finish() {
        if (wrong > 0) {
            System.out.println(wrong + " wrong");
            System.exit(1);
        }
    }

    private static void report(String what, String got, String due) {
        wrong++;
        System.out.println(prefix + what + " answered " + got + ", due is " + due);
    }
}
