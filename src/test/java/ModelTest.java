import java.util.function.LongSupplier;

/** All promises: long runs of calls, made up from fixed seeds, answered as the model answers. */
public final class ModelTest {
    private static final int RUNS = 3000;
    /** The document promises nothing behind this. */
    private static final int CALLS = 512;
    private static final long[] FAR = {Long.MIN_VALUE, Long.MAX_VALUE, -1L, 1L << 40};

    private final TraceBuilder x = new TraceBuilder();
    private final Model model = new Model();
    private final int tasksInTen;
    private long state;
    private String call = "";

    private ModelTest(int seed) {
        state = seed * 7919L + 17L;
        tasksInTen = seed % 4 * 2 + 2;
    }

    public static void main(String[] args) {
        long[] met = new long[11];
        for (int seed = 0; seed < RUNS; seed++) {
            ModelTest test = new ModelTest(seed);
            for (int i = 0; i < CALLS && test.step(seed, i); i++) {
                continue;
            }
            for (int what = 0; what < met.length; what++) {
                met[what] += test.model.count(what);
            }
        }
        for (int what = 0; what < met.length; what++) {
            Check.same("met often enough: count(" + what + ")", met[what] > RUNS, true);
        }
        Check.finish();
    }

    private int below(int bound) {
        state = state * 6364136223846793005L + 1442695040888963407L;
        return (int) ((state >>> 33) % bound);
    }

    private boolean step(int seed, int i) {
        LongSupplier[] pair = below(100) < 45 ? change() : look();
        String got = answer(pair[0]);
        String due = answer(pair[1]);
        Check.same("seed " + seed + ", call " + i + ": " + call, got, due);
        return got.equals(due);
    }

    private static String answer(LongSupplier supplier) {
        try {
            return String.valueOf(supplier.getAsLong());
        } catch (RuntimeException e) {
            return e.getClass().getName();
        }
    }

    private int key() {
        return below(60) == 0 ? below(2) * 13 - 1 : below(12);
    }

    private int worker() {
        return below(60) == 0 ? below(2) * 3 - 1 : below(2);
    }

    private long value() {
        return below(20) == 0 ? FAR[below(FAR.length)] : below(6) - 1;
    }

    private LongSupplier[] change() {
        if (below(10) < 6) {
            return building();
        }
        if (below(40) == 0) {
            return shrinking();
        }
        if (below(40) == 0) {
            int worker = worker();
            call = "forget(" + worker + ")";
            return new LongSupplier[] {() -> x.forget(worker), () -> model.forget(worker)};
        }
        return below(10) < tasksInTen ? tasking() : inputting();
    }

    private LongSupplier[] building() {
        int worker = worker();
        int key = key();
        if (below(4) == 0) {
            call = "stale(" + worker + ", " + key + ")";
            return new LongSupplier[] {() -> x.stale(worker, key) ? 1 : 0,
                () -> model.stale(worker, key) ? 1 : 0};
        }
        call = "build(" + worker + ", " + key + ")";
        return new LongSupplier[] {() -> x.build(worker, key), () -> model.build(worker, key)};
    }

    private LongSupplier[] shrinking() {
        int n = below(19) - 1;
        call = "shrink(" + n + ")";
        return new LongSupplier[] {() -> x.shrink(n), () -> model.shrink(n)};
    }

    private LongSupplier[] inputting() {
        int key = below(10) < 8 ? below(4) : key();
        long value = value();
        if (below(30) == 0) {
            call = "remove(" + key + ")";
            return new LongSupplier[] {() -> none(() -> x.remove(key)),
                () -> none(() -> model.remove(key))};
        }
        call = "input(" + key + ", " + value + ")";
        return new LongSupplier[] {() -> none(() -> x.input(key, value)),
            () -> none(() -> model.input(key, value))};
    }

    private LongSupplier[] tasking() {
        int key = below(10) < 8 ? 4 + below(8) : key();
        int rule = below(60) == 0 ? below(2) * 11 - 1 : below(10);
        int a = part(key, 20);
        int b = a == -1 && below(10) > 0 ? -1 : part(key, 10);
        int c = b == -1 && below(10) > 0 ? -1 : part(key, 3);
        call = "task(" + key + ", " + rule + ", " + a + ", " + b + ", " + c + ")";
        return new LongSupplier[] {() -> none(() -> x.task(key, rule, a, b, c)),
            () -> none(() -> model.task(key, rule, a, b, c))};
    }

    /** Mostly a key below, so that circles do not end every build. */
    private int part(int key, int noneInOf) {
        if (below(noneInOf) == 0) {
            return -1;
        }
        if (below(100) == 0) {
            return below(2) * 14 - 2;
        }
        return key > 0 && below(12) > 0 ? below(Math.min(key, 12)) : below(12);
    }

    private static long none(Runnable runnable) {
        runnable.run();
        return 0;
    }

    private LongSupplier[] look() {
        int which = below(4);
        int i = below(5) - 1;
        if (which == 0) {
            int what = below(13) - 1;
            call = "count(" + what + ")";
            return new LongSupplier[] {() -> x.count(what), () -> model.count(what)};
        }
        if (which == 1) {
            int place = below(19) - 1;
            call = "cached(" + place + ")";
            return new LongSupplier[] {() -> x.cached(place), () -> model.cached(place)};
        }
        int worker = worker();
        int key = key();
        call = (which == 2 ? "trace(" : "traced(") + worker + ", " + key + ", " + i + ")";
        if (which == 2) {
            return new LongSupplier[] {() -> x.trace(worker, key, i),
                () -> model.trace(worker, key, i)};
        }
        return new LongSupplier[] {() -> x.traced(worker, key, i),
            () -> model.traced(worker, key, i)};
    }
}
