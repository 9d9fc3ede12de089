import java.util.NoSuchElementException;

/** A builder of values that hang on one another, with traces and a shared cache of older ones. */
public final class TraceBuilder {
    private static final int KEYS = 12;
    private static final int WORKERS = 2;
    private static final int MOST_PARTS = 3;
    private static final int CACHE_ROOM = 16;
    private static final int NO_PART = -1;
    /** The i of trace and traced that means the whole trace, not one of its keys. */
    private static final int WHOLE = -1;

    private static final int NOTHING = 0;
    private static final int INPUT = 1;
    private static final int TASK = 2;

    private static final int SUM = 0;
    private static final int PRODUCT = 1;
    private static final int CHOICE = 2;
    private static final int QUOTIENT = 3;
    private static final int POINTER = 4;
    private static final int REST = 5;
    private static final int GREATEST = 6;
    private static final int UNTIL = 7;
    private static final int STEADY = 8;
    private static final int LIMIT = 9;
    private static final int RULES = 10;
    private static final int[] PARTS_NEEDED = {0, 0, 3, 2, 1, 2, 0, 2, 1, 2};
    private static final long STEADY_VALUE = 7L;
    private static final int UNTIL_TURNS = 4;

    private static final int NO_FAILURE = 0;
    private static final int NO_SUCH_ELEMENT = 1;
    private static final int ARITHMETIC = 2;
    private static final int ILLEGAL_STATE = 3;

    /** The numbers that count(what) knows; those kept as tallies stand at the same index there. */
    private static final int ASKS = 0;
    private static final int CHECKED = 1;
    private static final int TAKEN = 2;
    private static final int RUN = 3;
    private static final int BROKEN_RUNS = 4;
    private static final int BUILDS = 5;
    private static final int BROKEN_BUILDS = 6;
    private static final int ENTRIES = 7;
    private static final int TRACES_OF_FIRST = 8;
    private static final int TRACES_OF_SECOND = 9;
    private static final int CIRCLES = 10;
    private static final int TALLIES = 11;

    private final Plan plan;
    private final Memory memory;
    /** stale builds on this copy, so that nothing it does is seen later. */
    private final Memory scratch;
    private final Session session;

    public TraceBuilder() {
        plan = new Plan();
        memory = new Memory();
        scratch = new Memory();
        session = new Session(plan, memory);
    }

    public void input(int key, long value) throws IllegalArgumentException {
        refuseBadKey(key);
        if (plan.isInput(key, value)) {
            return;
        }
        plan.setInput(key, value);
        memory.dropKey(key);
    }

    public void task(int key, int rule, int a, int b, int c) throws IllegalArgumentException {
        refuseBadKey(key);
        refuseBadTask(rule, a, b, c);
        if (plan.isTask(key, rule, a, b, c)) {
            return;
        }
        plan.setTask(key, rule, a, b, c);
        memory.dropKey(key);
    }

    public void remove(int key) throws IllegalArgumentException, NoSuchElementException {
        refuseBadKey(key);
        if (plan.kinds[key] == NOTHING) {
            throw new NoSuchElementException();
        }
        plan.kinds[key] = NOTHING;
        memory.dropKey(key);
    }

    public long build(int worker, int key) throws IllegalArgumentException,
            NoSuchElementException, ArithmeticException, IllegalStateException {
        refuseBadWorker(worker);
        refuseBadKey(key);
        long value = session.result(memory, worker, key);
        memory.tallies[BUILDS]++;
        if (session.hasFailed()) {
            memory.tallies[BROKEN_BUILDS]++;
        }
        throwFailure(session.failure);
        return value;
    }

    public int forget(int worker) throws IllegalArgumentException {
        refuseBadWorker(worker);
        return memory.dropTracesOf(worker);
    }

    public int shrink(int n) throws IllegalArgumentException {
        if (n < 0 || n > CACHE_ROOM) {
            throw new IllegalArgumentException();
        }
        return memory.cutCacheTo(n);
    }

    public int trace(int worker, int key, int i)
            throws IllegalArgumentException, NoSuchElementException {
        Trace found = traceWith(worker, key, i);
        return i == WHOLE ? found.size : found.keys[i];
    }

    public long traced(int worker, int key, int i)
            throws IllegalArgumentException, NoSuchElementException {
        Trace found = traceWith(worker, key, i);
        return i == WHOLE ? found.result : found.values[i];
    }

    public boolean stale(int worker, int key) throws IllegalArgumentException,
            NoSuchElementException, ArithmeticException, IllegalStateException {
        refuseBadWorker(worker);
        refuseBadKey(key);
        scratch.becomeCopyOf(memory);
        session.result(scratch, worker, key);
        throwFailure(session.failure);
        return session.hasRun;
    }

    public int cached(int i) throws NoSuchElementException {
        Trace entry = memory.entryAt(i);
        if (entry == null) {
            throw new NoSuchElementException();
        }
        return entry.owner;
    }

    public int count(int what) {
        if (what < 0 || what >= TALLIES) {
            return -1;
        }
        switch (what) {
            case ENTRIES:
                return memory.cacheSize;
            case TRACES_OF_FIRST:
                return memory.tracesOf(0);
            case TRACES_OF_SECOND:
                return memory.tracesOf(1);
            default:
                return memory.tallies[what];
        }
    }

    /** Answers a trace that has the place i (or i is WHOLE), or throws as trace and traced do. */
    private Trace traceWith(int worker, int key, int i) {
        refuseBadWorker(worker);
        refuseBadKey(key);
        Trace found = memory.traceOf(worker, key);
        if (found == null || i < WHOLE || i >= found.size) {
            throw new NoSuchElementException();
        }
        return found;
    }

    private static void refuseBadKey(int key) {
        if (key < 0 || key >= KEYS) {
            throw new IllegalArgumentException();
        }
    }

    private static void refuseBadWorker(int worker) {
        if (worker < 0 || worker >= WORKERS) {
            throw new IllegalArgumentException();
        }
    }

    private static void refuseBadTask(int rule, int a, int b, int c) {
        if (rule < 0 || rule >= RULES || !isPart(a) || !isPart(b) || !isPart(c)) {
            throw new IllegalArgumentException();
        }
        boolean gap = a == NO_PART && b != NO_PART || b == NO_PART && c != NO_PART;
        if (gap || partsAmong(a, b, c) < PARTS_NEEDED[rule]) {
            throw new IllegalArgumentException();
        }
    }

    private static boolean isPart(int part) {
        return part == NO_PART || part >= 0 && part < KEYS;
    }

    private static int partsAmong(int a, int b, int c) {
        return (a == NO_PART ? 0 : 1) + (b == NO_PART ? 0 : 1) + (c == NO_PART ? 0 : 1);
    }

    private static void throwFailure(int failure) {
        switch (failure) {
            case NO_SUCH_ELEMENT:
                throw new NoSuchElementException();
            case ARITHMETIC:
                throw new ArithmeticException();
            case ILLEGAL_STATE:
                throw new IllegalStateException();
            default:
                break;
        }
    }

    /** What each key is; the same for both workers. */
    private static final class Plan {
        private final int[] kinds = new int[KEYS];
        private final long[] values = new long[KEYS];
        private final int[] rules = new int[KEYS];
        private final int[][] parts = new int[KEYS][MOST_PARTS];
        private final int[] partCounts = new int[KEYS];

        private boolean isInput(int key, long value) {
            return kinds[key] == INPUT && values[key] == value;
        }

        private void setInput(int key, long value) {
            kinds[key] = INPUT;
            values[key] = value;
        }

        private boolean isTask(int key, int rule, int a, int b, int c) {
            int[] row = parts[key];
            return kinds[key] == TASK && rules[key] == rule
                    && row[0] == a && row[1] == b && row[2] == c;
        }

        private void setTask(int key, int rule, int a, int b, int c) {
            kinds[key] = TASK;
            rules[key] = rule;
            parts[key][0] = a;
            parts[key][1] = b;
            parts[key][2] = c;
            partCounts[key] = partsAmong(a, b, c);
        }
    }

    /** What one run of a task asked for and got; never changed once the run is done. */
    private static final class Trace {
        private final int owner;
        // No rule asks for more different keys than a task has parts.
        private final int[] keys = new int[MOST_PARTS];
        private final long[] values = new long[MOST_PARTS];
        private int size;
        private long result;

        private Trace(int owner) {
            this.owner = owner;
        }

        private void note(int key, long value) {
            if (size < MOST_PARTS && !has(key)) {
                keys[size] = key;
                values[size] = value;
                size++;
            }
        }

        private boolean has(int key) {
            for (int i = 0; i < size; i++) {
                if (keys[i] == key) {
                    return true;
                }
            }
            return false;
        }
    }

    /** All that a build changes: the workers' traces, the cache and the tallies. */
    private static final class Memory {
        private final Trace[] traces = new Trace[WORKERS * KEYS];
        private final Trace[] cache = new Trace[CACHE_ROOM];
        private int cacheSize;
        private final int[] tallies = new int[TALLIES];

        /** The tallies stay behind: nobody reads those of a copy. */
        private void becomeCopyOf(Memory other) {
            for (int i = 0; i < traces.length; i++) {
                traces[i] = other.traces[i];
            }
            for (int i = 0; i < CACHE_ROOM; i++) {
                cache[i] = other.cache[i];
            }
            cacheSize = other.cacheSize;
        }

        private Trace traceOf(int worker, int key) {
            return traces[worker * KEYS + key];
        }

        private void give(int worker, Trace trace) {
            traces[worker * KEYS + trace.owner] = trace;
        }

        private int tracesOf(int worker) {
            int found = 0;
            for (int key = 0; key < KEYS; key++) {
                if (traceOf(worker, key) != null) {
                    found++;
                }
            }
            return found;
        }

        private int dropTracesOf(int worker) {
            int gone = tracesOf(worker);
            for (int key = 0; key < KEYS; key++) {
                traces[worker * KEYS + key] = null;
            }
            return gone;
        }

        /** Answers null where there is no such entry. */
        private Trace entryAt(int i) {
            return i < 0 || i >= cacheSize ? null : cache[i];
        }

        private void append(Trace entry) {
            cutCacheTo(CACHE_ROOM - 1);
            cache[cacheSize] = entry;
            cacheSize++;
        }

        private int cutCacheTo(int newest) {
            int gone = cacheSize - newest;
            if (gone <= 0) {
                return 0;
            }
            for (int i = 0; i < newest; i++) {
                cache[i] = cache[i + gone];
            }
            clearCacheFrom(newest);
            return gone;
        }

        private void dropKey(int key) {
            for (int worker = 0; worker < WORKERS; worker++) {
                traces[worker * KEYS + key] = null;
            }
            int left = 0;
            for (int i = 0; i < cacheSize; i++) {
                Trace entry = entryAt(i);
                if (entry != null && entry.owner != key) {
                    cache[left] = entry;
                    left++;
                }
            }
            clearCacheFrom(left);
        }

        private void clearCacheFrom(int size) {
            for (int i = size; i < cacheSize; i++) {
                cache[i] = null;
            }
            cacheSize = size;
        }

        /** Copies the key's entries, the newest first, into a row; answers how many there are. */
        private int copyEntriesOf(int key, Trace[] rows, int start) {
            int found = 0;
            for (int i = cacheSize - 1; i >= 0; i--) {
                Trace entry = entryAt(i);
                if (entry != null && entry.owner == key) {
                    rows[start + found] = entry;
                    found++;
                }
            }
            return found;
        }
    }

    /**
     * One build. What the document throws on the way is kept as a failure; from then on nothing is
     * asked, built or kept any more, so the first failure ends the session.
     */
    private static final class Session {
        private final Plan plan;
        private Memory memory;
        private int worker;
        private final boolean[] finished = new boolean[KEYS];
        private final boolean[] open = new boolean[KEYS];
        private final long[] values = new long[KEYS];
        // A key is open at most once at a time, so one row of entries for each key is enough.
        private final Trace[] entryRows = new Trace[KEYS * CACHE_ROOM];
        private boolean hasRun;
        private int failure;

        private Session(Plan plan, Memory memory) {
            this.plan = plan;
            this.memory = memory;
        }

        private long result(Memory target, int builder, int key) {
            memory = target;
            worker = builder;
            hasRun = false;
            failure = NO_FAILURE;
            for (int i = 0; i < KEYS; i++) {
                finished[i] = false;
                open[i] = false;
            }
            return valueOf(key);
        }

        private boolean hasFailed() {
            return failure != NO_FAILURE;
        }

        private long fail(int reason) {
            if (failure == NO_FAILURE) {
                failure = reason;
            }
            return 0L;
        }

        /** Every recursion comes through here and an open key is refused: 12 levels at most. */
        private long valueOf(int key) {
            if (finished[key]) {
                return values[key];
            }
            if (open[key]) {
                memory.tallies[CIRCLES]++;
                return fail(ILLEGAL_STATE);
            }
            if (plan.kinds[key] == NOTHING) {
                return fail(NO_SUCH_ELEMENT);
            }
            if (plan.kinds[key] == INPUT) {
                return finish(key, plan.values[key]);
            }
            open[key] = true;
            return taskValue(key);
        }

        private long finish(int key, long value) {
            open[key] = false;
            finished[key] = true;
            values[key] = value;
            return value;
        }

        private long taskValue(int key) {
            Trace own = memory.traceOf(worker, key);
            if (own != null && agrees(own)) {
                memory.tallies[CHECKED]++;
                return finish(key, own.result);
            }
            Trace entry = agreeingEntry(key);
            if (entry != null) {
                memory.tallies[TAKEN]++;
                memory.give(worker, entry);
                return finish(key, entry.result);
            }
            return hasFailed() ? 0L : runTask(key);
        }

        private boolean agrees(Trace trace) {
            for (int i = 0; i < trace.size && !hasFailed(); i++) {
                if (valueOf(trace.keys[i]) != trace.values[i]) {
                    return false;
                }
            }
            return !hasFailed();
        }

        /** Goes through a copy, for what is built meanwhile may push entries out of the cache. */
        private Trace agreeingEntry(int key) {
            int start = key * CACHE_ROOM;
            int found = memory.copyEntriesOf(key, entryRows, start);
            for (int i = 0; i < found && !hasFailed(); i++) {
                Trace entry = entryRows[start + i];
                if (entry != null && agrees(entry)) {
                    return entry;
                }
            }
            return null;
        }

        private long runTask(int key) {
            hasRun = true;
            Trace run = new Trace(key);
            run.result = ruleValue(run);
            if (hasFailed()) {
                memory.tallies[BROKEN_RUNS]++;
                return 0L;
            }
            memory.tallies[RUN]++;
            memory.give(worker, run);
            memory.append(run);
            return finish(key, run.result);
        }

        private long ruleValue(Trace run) {
            switch (plan.rules[run.owner]) {
                case SUM:
                    return sum(run);
                case PRODUCT:
                    return product(run);
                case CHOICE:
                    return askPart(run, askPart(run, 0) > 0 ? 1 : 2);
                case QUOTIENT:
                    return quotient(run);
                case POINTER:
                    return ask(run, (int) Math.floorMod(askPart(run, 0), (long) KEYS));
                case REST:
                    return rest(run);
                case GREATEST:
                    return greatest(run);
                case UNTIL:
                    return until(run);
                case STEADY:
                    askPart(run, 0);
                    return STEADY_VALUE;
                case LIMIT:
                    return limit(run);
                default:
                    return 0L;
            }
        }

        private long askPart(Trace run, int part) {
            return ask(run, plan.parts[run.owner][part]);
        }

        /** After a failure no more is asked, so a rule may go on with the 0 that it gets. */
        private long ask(Trace run, int key) {
            if (hasFailed()) {
                return 0L;
            }
            memory.tallies[ASKS]++;
            long value = valueOf(key);
            run.note(key, value);
            return value;
        }

        private long sum(Trace run) {
            long total = 0L;
            for (int i = 0; i < plan.partCounts[run.owner]; i++) {
                total += askPart(run, i);
            }
            return total;
        }

        private long product(Trace run) {
            long total = 1L;
            for (int i = 0; i < plan.partCounts[run.owner]; i++) {
                total *= askPart(run, i);
            }
            return total;
        }

        private long quotient(Trace run) {
            long dividend = askPart(run, 0);
            long divisor = askPart(run, 1);
            return divisor == 0L ? fail(ARITHMETIC) : dividend / divisor;
        }

        private long rest(Trace run) {
            long dividend = askPart(run, 0);
            long divisor = askPart(run, 1);
            return divisor == 0L ? fail(ARITHMETIC) : dividend % divisor;
        }

        private long greatest(Trace run) {
            if (plan.partCounts[run.owner] == 0) {
                return fail(NO_SUCH_ELEMENT);
            }
            long most = askPart(run, 0);
            for (int i = 1; i < plan.partCounts[run.owner]; i++) {
                most = Math.max(most, askPart(run, i));
            }
            return most;
        }

        private long until(Trace run) {
            long total = askPart(run, 0);
            int turns = (int) Math.floorMod(total, (long) UNTIL_TURNS);
            for (int i = 0; i < turns; i++) {
                total += askPart(run, 1);
            }
            return total;
        }

        private long limit(Trace run) {
            long value = askPart(run, 0);
            long most = askPart(run, 1);
            return value > most ? fail(ILLEGAL_STATE) : value;
        }
    }
}
