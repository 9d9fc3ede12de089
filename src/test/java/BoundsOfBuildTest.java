/** The boundary cases of promise 5 and of how a build goes; BoundsOfRulesTest has the rules. */
public final class BoundsOfBuildTest {
    public static void main(String[] args) {
        refusals();
        sessions();
        checks();
        looksIntoTheCache();
        throwing();
        Check.sentence("at most 512 calls: the last of them", BoundsOfBuildTest::calls512);
        Check.finish();
    }

    private static void refusals() {
        Check.sentence("by the worker (0, 1): too small or too large", () -> {
            int[] workers = {-1, 2, Integer.MIN_VALUE, Integer.MAX_VALUE};
            for (int worker : workers) {
                bad(worker, 2);
                bad(worker, 5);
                bad(worker, 6);
            }
        });
        Check.sentence("KEYS 0 .. 11: too small or too large", () -> {
            int[] keys = {-1, 12, 24, Integer.MIN_VALUE, Integer.MAX_VALUE};
            for (int key : keys) {
                bad(0, key);
                bad(1, key);
                bad(2, key);
            }
        });
        Check.sentence("by the worker (0, 1), KEYS 0 .. 11: the first and the last", () -> {
            TraceBuilder x = new TraceBuilder();
            x.task(0, Made.PRODUCT, -1, -1, -1);
            x.task(11, Made.SUM, 0, 0, -1);
            Check.same("worker 0, key 11", x.build(0, 11), 2L);
            Check.same("worker 1, key 0", x.build(1, 0), 1L);
            Check.counts("each its own traces", x, 2, 0, 1, 2, 0, 2, 0, 2, 2, 1, 0);
        });
        Check.sentence("NOTHING: NoSuchElementException", BoundsOfBuildTest::nothing);
    }

    private static void bad(int worker, int key) {
        String what = "build(" + worker + ", " + key + ")";
        Twin.refused(Made::mixed, what, Check.BAD, x -> x.build(worker, key));
        Twin.refused(TraceBuilder::new, what, Check.BAD, x -> x.build(worker, key));
    }

    private static void nothing() {
        TraceBuilder x = new TraceBuilder();
        Check.thrown("itself", Check.MISSING, () -> x.build(1, 11));
        Check.counts("itself: a build that threw, no run", x, 0, 0, 0, 0, 0, 1, 1, 0, 0, 0, 0);
        x.task(0, Made.STEADY, 11, -1, -1);
        Check.thrown("asked for", Check.MISSING, () -> x.build(1, 0));
        Check.counts("asked for: a run that threw", x, 1, 0, 0, 0, 1, 2, 2, 0, 0, 0, 0);
    }

    private static void sessions() {
        Check.sentence("An INPUT is FINISHED with its value", () -> {
            TraceBuilder x = new TraceBuilder();
            x.input(0, 5L);
            Check.same("an input", x.build(0, 0), 5L);
            Check.counts("an input: a build and no more", x, 0, 0, 0, 0, 0, 1, 0, 0, 0, 0, 0);
            Check.noTrace("an input", x, 0, 0);
        });
        Check.sentence("a key once FINISHED in it has its value for all the session",
                BoundsOfBuildTest::finishedOnce);
        Check.sentence("being built in this session already: a CIRCLE: of one, of two, of twelve",
                BoundsOfBuildTest::circles);
        Check.sentence("being built already: by a CHECKING too", BoundsOfBuildTest::checkedCircle);
        Check.sentence("being built already: by CHECKINGS alone, nothing RUNS",
                BoundsOfBuildTest::circleOfChecks);
        Check.sentence("in this session: the next one is free of it", () -> {
            TraceBuilder x = new TraceBuilder();
            x.task(0, Made.SUM, 1, -1, -1);
            x.task(1, Made.SUM, 0, -1, -1);
            Check.thrown("a circle", Check.STATE, () -> x.build(0, 0));
            x.input(1, 5L);
            Check.same("key 0 is not open any more", x.build(0, 0), 5L);
            x.input(1, 6L);
            Check.same("key 0 is not finished any more", x.build(0, 0), 6L);
        });
    }

    private static void finishedOnce() {
        TraceBuilder x = new TraceBuilder();
        x.input(0, 1L);
        x.task(1, Made.SUM, 0, -1, -1);
        x.task(2, Made.SUM, 1, 1, 1);
        x.task(3, Made.SUM, 1, 2, 1);
        Check.same("run once", x.build(0, 3), 5L);
        Check.counts("run once", x, 7, 0, 0, 3, 0, 1, 0, 3, 3, 0, 0);
        x.build(0, 3);
        Check.counts("checked once", x, 7, 3, 0, 3, 0, 2, 0, 3, 3, 0, 0);
        x.build(1, 3);
        Check.counts("taken once", x, 7, 3, 3, 3, 0, 3, 0, 3, 3, 3, 0);
    }

    private static void circles() {
        for (int size = 1; size <= 12; size++) {
            TraceBuilder x = new TraceBuilder();
            for (int key = 0; key < size; key++) {
                x.task(key, Made.SUM, (key + 1) % size, -1, -1);
            }
            Check.thrown("a circle of " + size, Check.STATE, () -> x.build(0, 0));
            Check.counts("a circle of " + size, x, size, 0, 0, 0, size, 1, 1, 0, 0, 0, 1);
        }
        TraceBuilder x = new TraceBuilder();
        for (int key = 0; key < 12; key++) {
            x.task(key, Made.SUM, Math.min(key + 1, 11), -1, -1);
        }
        x.task(11, Made.PRODUCT, -1, -1, -1);
        Check.same("twelve in a row", x.build(0, 0), 1L);
        Check.counts("twelve in a row", x, 11, 0, 0, 12, 0, 1, 0, 12, 12, 0, 0);
    }

    private static void checkedCircle() {
        TraceBuilder x = new TraceBuilder();
        x.input(0, 1L);
        x.task(1, Made.SUM, 0, -1, -1);
        x.task(2, Made.SUM, 1, -1, -1);
        x.build(0, 2);
        x.task(0, Made.SUM, 2, -1, -1);
        Check.thrown("the own trace", Check.STATE, () -> x.build(0, 2));
        Check.counts("the own trace: only 0 ran", x, 3, 0, 0, 2, 1, 2, 1, 2, 2, 0, 1);
        Check.thrown("the cache", Check.STATE, () -> x.build(1, 2));
        Check.counts("the cache: only 0 ran", x, 4, 0, 0, 2, 2, 3, 2, 2, 2, 0, 2);
        Check.trace("all is kept", x, 0, 2, 1L, 1, 1L);
        Check.trace("all is kept", x, 0, 1, 1L, 0, 1L);
    }

    /** Keys 4 and 5 may ask for one another, and the cache has an entry of each that did. */
    private static void circleOfChecks() {
        TraceBuilder x = new TraceBuilder();
        x.input(0, 1L);
        x.input(1, 0L);
        x.input(2, 20L);
        x.task(4, Made.CHOICE, 0, 5, 2);
        x.task(5, Made.CHOICE, 1, 4, 2);
        Check.same("4 asks for 5", x.build(0, 4), 20L);
        x.input(0, 0L);
        x.input(1, 1L);
        Check.same("5 asks for 4", x.build(0, 5), 20L);
        x.input(0, 1L);
        Check.thrown("entries alone", Check.STATE, () -> x.build(1, 4));
        Check.counts("entries alone", x, 8, 0, 0, 4, 0, 3, 1, 4, 2, 0, 1);
        Check.thrown("an entry and a trace", Check.STATE, () -> x.build(0, 4));
        Check.counts("an entry and a trace", x, 8, 0, 0, 4, 0, 4, 2, 4, 2, 0, 2);
        Check.thrown("stale", Check.STATE, () -> x.stale(1, 5));
        Check.cache("all is kept", x, 5, 4, 4, 5);
    }

    private static void checks() {
        Check.sentence("its keys are BUILT in order", BoundsOfBuildTest::checkedInOrder);
        Check.sentence("until one has another value than there: the first has",
                BoundsOfBuildTest::firstIsAnother);
        Check.sentence("None has: or one, at any place", BoundsOfBuildTest::anyIsAnother);
        Check.sentence("None has: it's CHECKED: a TRACE without keys", () -> {
            TraceBuilder x = new TraceBuilder();
            x.task(0, Made.SUM, -1, -1, -1);
            x.build(0, 0);
            x.build(0, 0);
            Check.counts("checked", x, 0, 1, 0, 1, 0, 2, 0, 1, 1, 0, 0);
            x.build(1, 0);
            Check.counts("taken", x, 0, 1, 1, 1, 0, 3, 0, 1, 1, 1, 0);
        });
        Check.sentence("another value: the same again after a change", () -> {
            TraceBuilder x = new TraceBuilder();
            x.input(0, 1L);
            x.task(1, Made.SUM, 0, -1, -1);
            x.build(0, 1);
            x.input(0, 2L);
            x.input(0, 1L);
            Check.same("set there and back", x.build(0, 1), 1L);
            Check.counts("set there and back", x, 1, 1, 0, 1, 0, 2, 0, 1, 1, 0, 0);
        });
        Check.sentence("another value: one that differs in its upper half alone", () -> {
            TraceBuilder x = new TraceBuilder();
            x.input(0, 1L);
            x.task(1, Made.SUM, 0, -1, -1);
            x.build(0, 1);
            x.input(0, 1L + (1L << 32));
            Check.same("far above", x.build(0, 1), 1L + (1L << 32));
            Check.same("it ran", x.count(3), 2);
        });
    }

    private static void firstIsAnother() {
        TraceBuilder x = new TraceBuilder();
        x.input(0, 1L);
        x.input(2, 20L);
        x.task(1, Made.SUM, -1, -1, -1);
        x.task(3, Made.CHOICE, 0, 1, 2);
        x.build(0, 3);
        x.input(0, 0L);
        x.remove(1);
        Check.same("the second is not built, or it would throw", x.build(0, 3), 20L);
        Check.same("by the other neither", x.build(1, 3), 20L);
    }

    private static void anyIsAnother() {
        for (int place = 0; place < 3; place++) {
            TraceBuilder x = new TraceBuilder();
            for (int key = 0; key < 3; key++) {
                x.input(key, 10L);
            }
            x.task(3, Made.SUM, 2, 1, 0);
            x.build(0, 3);
            x.input(place, 11L);
            Check.same("key " + place + " is another: stale", x.stale(0, 3), true);
            Check.same("key " + place + " is another", x.build(0, 3), 31L);
            Check.counts("key " + place + " is another", x, 6, 0, 0, 2, 0, 2, 0, 2, 1, 0, 0);
        }
    }

    private static void checkedInOrder() {
        TraceBuilder x = new TraceBuilder();
        x.input(0, 1L);
        x.input(1, 1L);
        x.task(2, Made.QUOTIENT, 0, 1, -1);
        x.task(3, Made.LIMIT, 0, 1, -1);
        x.task(4, Made.SUM, 2, 3, -1);
        x.task(5, Made.SUM, 3, 2, -1);
        x.build(0, 4);
        x.build(0, 5);
        x.input(1, 0L);
        Check.thrown("first 2", Check.ARITHMETIC, () -> x.build(0, 4));
        Check.thrown("first 3", Check.STATE, () -> x.build(0, 5));
        Check.thrown("first 2, by the cache", Check.ARITHMETIC, () -> x.build(1, 4));
        Check.thrown("first 3, by the cache", Check.STATE, () -> x.build(1, 5));
    }

    private static void looksIntoTheCache() {
        Check.sentence("from the newest entry to the oldest: the sixteenth agrees", () -> {
            TraceBuilder x = Made.fullOfOneKey();
            x.input(0, 1L);
            Check.same("by the other", x.build(1, 1), 1L);
            Check.trace("by the other", x, 1, 1, 1L, 0, 1L);
            Check.same("by the owner", x.build(0, 1), 1L);
            Check.trace("by the owner", x, 0, 1, 1L, 0, 1L);
            Check.counts("both taken, none ran", x, 16, 0, 2, 16, 0, 18, 0, 16, 1, 1, 0);
        });
        Check.sentence("from the newest entry: the first agrees", () -> {
            TraceBuilder x = Made.fullOfOneKey();
            Check.same("by the other", x.build(1, 1), 16L);
            Check.counts("taken", x, 16, 0, 1, 16, 0, 17, 0, 16, 1, 1, 0);
        });
        Check.sentence("each one for the key: none agrees, another key's does not help", () -> {
            TraceBuilder x = Made.full();
            x.task(2, Made.SUM, 0, -1, -1);
            Check.same("key 2 asks as key 1 does", x.build(0, 2), 15L);
            Check.same("but ran", x.count(3), 17);
        });
        Check.sentence("as it is then (whatever comes or goes meanwhile): all goes",
                BoundsOfBuildTest::allGoesMeanwhile);
        Check.sentence("as it is then: what went while the worker's TRACE was CHECKED is gone",
                BoundsOfBuildTest::goneBefore);
        Check.sentence("at most 16 entries (at 16 the oldest goes)", BoundsOfBuildTest::sixteen);
        Check.sentence("if all is the same, it's TAKEN: the TRACE becomes the worker's", () -> {
            TraceBuilder x = Made.fullOfOneKey();
            x.build(1, 1);
            x.shrink(0);
            Check.same("it needs the cache no more", x.build(1, 1), 16L);
            Check.counts("checked", x, 16, 1, 1, 16, 0, 18, 0, 0, 1, 1, 0);
        });
    }

    /**
     * Twelve entries, of which only the oldest, for key 11, agrees with key 0 at 1, as it is then.
     * The ten tasks between run when they are built, so they push that entry out.
     */
    private static TraceBuilder chainWithOldEntry() {
        TraceBuilder x = new TraceBuilder();
        x.input(0, 1L);
        for (int key = 1; key < 11; key++) {
            x.task(key, Made.SUM, key - 1, -1, -1);
        }
        x.task(11, Made.SUM, 10, -1, -1);
        x.build(0, 10);
        x.shrink(0);
        x.build(0, 11);
        x.input(0, 2L);
        x.build(0, 11);
        Check.cache("two of 11", x, 11, 1, 2, 3, 4, 5, 6, 7, 8, 9, 10, 11);
        x.input(0, 1L);
        return x;
    }

    private static void allGoesMeanwhile() {
        TraceBuilder x = chainWithOldEntry();
        Check.same("by the other", x.build(1, 11), 1L);
        Check.cache("the old entry went", x, 6, 7, 8, 9, 10, 11, 1, 2, 3, 4, 5, 6, 7, 8, 9, 10);
        Check.trace("but it was taken", x, 1, 11, 1L, 10, 1L);
        Check.same("taken", x.count(2), 1);
        Check.same("run", x.count(3), 32);
    }

    private static void goneBefore() {
        TraceBuilder x = chainWithOldEntry();
        Check.same("by the owner", x.build(0, 11), 1L);
        Check.cache("11 ran", x, 7, 8, 9, 10, 11, 1, 2, 3, 4, 5, 6, 7, 8, 9, 10, 11);
        Check.same("taken", x.count(2), 0);
        Check.same("run", x.count(3), 33);
    }

    private static void sixteen() {
        TraceBuilder x = Made.full();
        Check.cache("sixteen", x, 11, 1, 1, 1, 1, 1, 1, 1, 1, 1, 1, 1, 1, 1, 1, 1);
        x.input(0, 16L);
        x.build(0, 1);
        Check.cache("the oldest went", x, 1, 1, 1, 1, 1, 1, 1, 1, 1, 1, 1, 1, 1, 1, 1, 1);
        x.input(0, 1L);
        Check.same("the next one is still there", x.stale(1, 1), false);
        Check.same("the one that went is not", x.stale(1, 11), true);
        x.build(1, 11);
        Check.cache("a new one behind", x, 1, 1, 1, 1, 1, 1, 1, 1, 1, 1, 1, 1, 1, 1, 1, 11);
        Check.same("now it went", x.stale(1, 1), true);
        x.input(0, 2L);
        Check.same("the oldest of sixteen", x.stale(1, 1), false);
    }

    private static void throwing() {
        Check.sentence("Anything thrown on the way ends the session: nothing is asked any more",
                () -> {
                    TraceBuilder x = new TraceBuilder();
                    x.input(0, 1L);
                    x.task(1, Made.GREATEST, -1, -1, -1);
                    x.task(2, Made.SUM, 1, 0, 3);
                    x.task(3, Made.SUM, 0, -1, -1);
                    Check.thrown("the first part throws", Check.MISSING, () -> x.build(0, 2));
                    Check.counts("one ask", x, 1, 0, 0, 0, 2, 1, 1, 0, 0, 0, 0);
                });
        Check.sentence("Anything thrown: what was thrown first",
                BoundsOfBuildTest::firstThrown);
        Check.sentence("TASKS that were not FINISHED keep their old TRACES", () -> {
            TraceBuilder x = broken();
            Check.trace("the one that threw", x, 0, 3, 3L, 2, 6L, 1, 2L);
            Check.trace("the one that asked", x, 0, 4, 9L, 2, 6L, 3, 3L);
            Check.same("the other worker has none", x.count(9), 0);
        });
        Check.sentence("what was FINISHED has its new one", () -> {
            TraceBuilder x = broken();
            Check.trace("the new one", x, 0, 2, 8L, 0, 8L);
            Check.cache("and its entry", x, 2, 3, 4, 2);
            Check.same("run to the end", x.count(3), 4);
        });
        Check.sentence("ends the session: while CHECKING an entry of THE CACHE", () -> {
            TraceBuilder x = new TraceBuilder();
            x.input(0, 1L);
            x.input(1, 5L);
            x.task(2, Made.CHOICE, 0, 1, 0);
            x.build(0, 2);
            x.remove(1);
            Check.thrown("its second key is missing", Check.MISSING, () -> x.build(1, 2));
            Check.counts("2 did not run", x, 2, 0, 0, 1, 0, 2, 1, 1, 1, 0, 0);
        });
    }

    private static void firstThrown() {
        TraceBuilder x = new TraceBuilder();
        x.input(0, 1L);
        x.input(1, 0L);
        x.task(2, Made.QUOTIENT, 0, 1, -1);
        x.task(3, Made.LIMIT, 0, 1, -1);
        x.task(4, Made.SUM, 2, 3, 5);
        x.task(6, Made.SUM, 3, 2, 5);
        x.task(7, Made.QUOTIENT, 5, 1, -1);
        x.task(8, Made.LIMIT, 0, 5, -1);
        Check.thrown("the quotient", Check.ARITHMETIC, () -> x.build(0, 4));
        Check.thrown("the limit", Check.STATE, () -> x.build(0, 6));
        Check.thrown("missing, not the 0", Check.MISSING, () -> x.build(0, 7));
        Check.thrown("missing, not the limit", Check.MISSING, () -> x.build(0, 8));
    }

    /** Key 4 is built, then its second part divides by 0 behind a first part that is new. */
    private static TraceBuilder broken() {
        TraceBuilder x = new TraceBuilder();
        x.input(0, 6L);
        x.input(1, 2L);
        x.task(2, Made.SUM, 0, -1, -1);
        x.task(3, Made.QUOTIENT, 2, 1, -1);
        x.task(4, Made.SUM, 2, 3, -1);
        x.build(0, 4);
        x.input(0, 8L);
        x.input(1, 0L);
        Check.thrown("by 0", Check.ARITHMETIC, () -> x.build(0, 4));
        return x;
    }

    /** Eleven tasks, each of which runs anew in each of 249 builds, in 512 calls. */
    private static void calls512() {
        TraceBuilder x = new TraceBuilder();
        for (int key = 1; key < 12; key++) {
            x.task(key, Made.SUM, key - 1, key - 1, key - 1);
        }
        for (int i = 1; i <= 249; i++) {
            x.input(0, i);
            Check.same("build " + i, x.build(i % 2, 11), 177147L * i);
        }
        Check.same("asks", x.count(0), 249 * 33);
        Check.same("runs", x.count(3), 249 * 11);
        Check.same("the 512th call", x.count(5), 249);
    }
}
