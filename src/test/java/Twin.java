import java.util.NoSuchElementException;
import java.util.function.Consumer;
import java.util.function.LongSupplier;
import java.util.function.Supplier;

/** Compares an object that got a call which must change nothing with one that never got it. */
final class Twin {
    private Twin() {
    }

    static void unchanged(Supplier<TraceBuilder> made, String what, Consumer<TraceBuilder> call) {
        TraceBuilder x = made.get();
        call.accept(x);
        Check.same(what + ", all that can be seen after it", told(x), told(made.get()));
    }

    /** The call must throw just this, and leave the object as it was. */
    static void refused(Supplier<TraceBuilder> made, String what,
            Class<? extends RuntimeException> due, Consumer<TraceBuilder> call) {
        unchanged(made, what, x -> Check.thrown(what, due, () -> call.accept(x)));
    }

    /** What the keys are shows only when they are built, so this builds them all. */
    private static String told(TraceBuilder x) {
        StringBuilder text = new StringBuilder(kept(x));
        for (int key = 0; key < 12; key++) {
            int k = key;
            text.append(' ').append(answer(() -> x.build(0, k)));
            text.append(' ').append(answer(() -> x.build(1, k)));
        }
        return text.append(kept(x)).toString();
    }

    /** The counts, the cache and the traces; few enough calls to stay below 512 in a test. */
    private static String kept(TraceBuilder x) {
        StringBuilder text = new StringBuilder();
        for (int what = 0; what < 11; what++) {
            text.append(what == 0 ? " counts " : ",").append(x.count(what));
        }
        for (int i = 0; i < x.count(7); i++) {
            text.append(i == 0 ? " cache " : ",").append(x.cached(i));
        }
        for (int key = 0; key < 12; key++) {
            text.append(trace(x, 0, key)).append(trace(x, 1, key));
        }
        return text.toString();
    }

    private static String trace(TraceBuilder x, int worker, int key) {
        int size;
        try {
            size = x.trace(worker, key, -1);
        } catch (NoSuchElementException e) {
            return "";
        }
        StringBuilder text = new StringBuilder(" trace ").append(worker).append(':').append(key);
        for (int i = 0; i < size; i++) {
            text.append(',').append(x.trace(worker, key, i));
            text.append('=').append(x.traced(worker, key, i));
        }
        return text.append("->").append(x.traced(worker, key, -1)).toString();
    }

    private static String answer(LongSupplier call) {
        try {
            return String.valueOf(call.getAsLong());
        } catch (RuntimeException e) {
            return e.getClass().getSimpleName();
        }
    }
}
