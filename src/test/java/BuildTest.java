/** Promise 5: how a build goes. */
public final class BuildTest {
    public static void main(String[] args) {
        onceInASession();
        checkedTakenRun();
        checkingStopsAtTheFirstOther();
        cutOffWhereNothingChanges();
        everyEntryIsLookedAt();
        entriesThatGoMeanwhileStillCount();
        cacheIsReadAfterTheOwnTraceWasChecked();
        oldestGoesAtSixteen();
        thrownWhileRunning();
        thrownWhileChecking();
        thrownWhileLookingIntoTheCache();
        circles();
        circleThatIsMetWhileChecking();
        brokenCircle();
        twelveDeep();
        badNumbers();
        Check.finish();
    }

    private static TraceBuilder diamond() {
        TraceBuilder x = new TraceBuilder();
        x.input(0, 2L);
        x.task(1, 0, 0, 0, -1);
        x.task(2, 1, 1, 0, -1);
        x.task(3, 0, 1, 2, 1);
        return x;
    }

    private static void onceInASession() {
        TraceBuilder x = diamond();
        Check.same("diamond", x.build(0, 3), 16L);
        Check.counts("diamond", x, 7, 0, 0, 3, 0, 1, 0, 3, 3, 0, 0);
        Check.cache("diamond", x, 1, 2, 3);
    }

    private static void checkedTakenRun() {
        TraceBuilder x = diamond();
        x.build(0, 3);
        Check.same("again", x.build(0, 3), 16L);
        Check.counts("again", x, 7, 3, 0, 3, 0, 2, 0, 3, 3, 0, 0);
        Check.same("by the other", x.build(1, 3), 16L);
        Check.counts("by the other", x, 7, 3, 3, 3, 0, 3, 0, 3, 3, 3, 0);
        Check.cache("by the other", x, 1, 2, 3);
        Check.trace("by the other", x, 1, 3, 16L, 1, 4L, 2, 8L);
        x.input(0, 3L);
        Check.same("changed", x.build(1, 3), 30L);
        Check.counts("changed", x, 14, 3, 3, 6, 0, 4, 0, 6, 3, 3, 0);
        Check.trace("the first worker's is old", x, 0, 3, 16L, 1, 4L, 2, 8L);
        x.input(0, 2L);
        Check.same("changed back", x.build(1, 3), 16L);
        Check.counts("changed back", x, 14, 3, 6, 6, 0, 5, 0, 6, 3, 3, 0);
        Check.cache("taking leaves the cache alone", x, 1, 2, 3, 1, 2, 3);
    }

    private static void checkingStopsAtTheFirstOther() {
        TraceBuilder x = new TraceBuilder();
        x.input(0, 1L);
        x.input(1, 5L);
        x.task(2, 0, 1, -1, -1);
        x.task(3, 2, 0, 2, 1);
        x.build(0, 3);
        x.input(0, 0L);
        x.input(1, 6L);
        Check.same("the choice goes the other way", x.build(0, 3), 6L);
        Check.trace("key 2 was not built", x, 0, 2, 5L, 1, 5L);
        Check.cache("key 2 was not built", x, 2, 3, 3);
        x.remove(2);
        x.input(0, 2L);
        x.task(2, 3, 1, 4, -1);
        Check.thrown("now it is asked for", Check.MISSING, () -> x.build(0, 3));
        x.input(0, 0L);
        Check.same("and now not", x.build(0, 3), 6L);
    }

    private static void cutOffWhereNothingChanges() {
        TraceBuilder x = new TraceBuilder();
        x.input(0, 1L);
        x.task(1, 8, 0, -1, -1);
        x.task(2, 0, 1, -1, -1);
        x.build(0, 2);
        x.input(0, 9L);
        Check.same("steady below", x.build(0, 2), 7L);
        Check.counts("steady below", x, 3, 1, 0, 3, 0, 2, 0, 3, 2, 0, 0);
        Check.trace("steady ran again", x, 0, 1, 7L, 0, 9L);
    }

    private static void everyEntryIsLookedAt() {
        TraceBuilder x = new TraceBuilder();
        x.input(0, 1L);
        x.input(1, 5L);
        x.task(3, 2, 0, 1, 2);
        x.build(0, 3);
        x.input(0, 0L);
        x.input(2, 6L);
        x.build(0, 3);
        Check.cache("two choices", x, 3, 3);
        Check.same("the newest agrees", x.build(1, 3), 6L);
        Check.trace("the newest agrees", x, 1, 3, 6L, 0, 0L, 2, 6L);
        x.input(0, 1L);
        Check.same("the older agrees", x.build(1, 3), 5L);
        Check.trace("the older agrees", x, 1, 3, 5L, 0, 1L, 1, 5L);
        Check.counts("both taken", x, 4, 0, 2, 2, 0, 4, 0, 2, 1, 1, 0);
    }

    /**
     * A full cache whose oldest entry is the only one for key 3 that agrees when key 1 is 10, as it
     * is then; none for key 2 agrees, so building it pushes that oldest entry out.
     */
    private static TraceBuilder fullWithOldestThatAgrees() {
        TraceBuilder x = new TraceBuilder();
        x.input(1, 10L);
        x.task(2, 0, 1, -1, -1);
        x.task(3, 0, 2, -1, -1);
        x.build(0, 2);
        x.shrink(0);
        x.build(0, 3);
        x.input(1, 11L);
        x.build(0, 3);
        Check.cache("the last of three is no good", x, 3, 2, 3);
        x.task(6, 0, 5, -1, -1);
        for (int i = 0; i < 13; i++) {
            x.input(5, i);
            x.build(0, 6);
        }
        Check.cache("full", x, 3, 2, 3, 6, 6, 6, 6, 6, 6, 6, 6, 6, 6, 6, 6, 6);
        x.input(1, 10L);
        return x;
    }

    /** Pushed out while a newer one is checked: the look into the cache had begun before. */
    private static void entriesThatGoMeanwhileStillCount() {
        TraceBuilder x = fullWithOldestThatAgrees();
        Check.same("stale, for key 2 runs", x.stale(1, 3), true);
        Check.same("built by the other", x.build(1, 3), 10L);
        Check.trace("built by the other", x, 1, 3, 10L, 2, 10L);
        Check.same("taken from the entry that went", x.count(2), 1);
        Check.cache("only 2 ran", x, 2, 3, 6, 6, 6, 6, 6, 6, 6, 6, 6, 6, 6, 6, 6, 2);
    }

    /** Pushed out while the own trace is checked: the look into the cache begins behind that. */
    private static void cacheIsReadAfterTheOwnTraceWasChecked() {
        TraceBuilder x = fullWithOldestThatAgrees();
        Check.same("built by the owner", x.build(0, 3), 10L);
        Check.same("nothing was taken", x.count(2), 0);
        Check.cache("2 and 3 ran", x, 3, 6, 6, 6, 6, 6, 6, 6, 6, 6, 6, 6, 6, 6, 2, 3);
    }

    private static void oldestGoesAtSixteen() {
        TraceBuilder x = new TraceBuilder();
        x.task(0, 0, 1, -1, -1);
        x.task(2, 0, -1, -1, -1);
        x.build(1, 2);
        for (int i = 1; i <= 15; i++) {
            x.input(1, i);
            x.build(0, 0);
        }
        Check.cache("sixteen", x, 2, 0, 0, 0, 0, 0, 0, 0, 0, 0, 0, 0, 0, 0, 0, 0);
        x.input(1, 16L);
        x.build(0, 0);
        Check.cache("seventeen", x, 0, 0, 0, 0, 0, 0, 0, 0, 0, 0, 0, 0, 0, 0, 0, 0);
        x.input(1, 1L);
        Check.same("still there", x.stale(1, 0), false);
        x.input(1, 17L);
        x.build(0, 0);
        x.input(1, 1L);
        Check.same("gone", x.stale(1, 0), true);
    }

    private static void thrownWhileRunning() {
        TraceBuilder x = new TraceBuilder();
        x.input(0, 6L);
        x.input(1, 3L);
        x.task(2, 0, 0, -1, -1);
        x.task(3, 3, 0, 1, -1);
        x.task(4, 0, 2, 3, -1);
        Check.same("no fault yet", x.build(0, 4), 8L);
        x.input(0, 8L);
        x.input(1, 0L);
        Check.thrown("divided by 0", Check.ARITHMETIC, () -> x.build(0, 4));
        Check.trace("finished", x, 0, 2, 8L, 0, 8L);
        Check.trace("not finished: the old one", x, 0, 3, 2L, 0, 6L, 1, 3L);
        Check.trace("not finished: the old one", x, 0, 4, 8L, 2, 6L, 3, 2L);
        Check.cache("the finished one is in", x, 2, 3, 4, 2);
        Check.counts("divided by 0", x, 10, 0, 0, 4, 2, 2, 1, 4, 3, 0, 0);
        x.input(1, 2L);
        Check.same("mended", x.build(0, 4), 12L);
        Check.counts("mended", x, 14, 1, 0, 6, 2, 3, 1, 6, 3, 0, 0);
    }

    /** The one above only checks its trace, so its run is not among those that threw. */
    private static void thrownWhileChecking() {
        TraceBuilder x = new TraceBuilder();
        x.input(0, 6L);
        x.input(1, 3L);
        x.task(3, 3, 0, 1, -1);
        x.task(4, 0, 3, -1, -1);
        x.task(5, 0, 4, -1, -1);
        x.build(0, 4);
        x.input(1, 0L);
        Check.thrown("while checking", Check.ARITHMETIC, () -> x.build(0, 4));
        Check.counts("while checking", x, 5, 0, 0, 2, 1, 2, 1, 2, 2, 0, 0);
        Check.thrown("checking below a run", Check.ARITHMETIC, () -> x.build(0, 5));
        Check.counts("checking below a run", x, 8, 0, 0, 2, 3, 3, 2, 2, 2, 0, 0);
        Check.trace("kept", x, 0, 4, 2L, 3, 2L);
        x.remove(3);
        Check.thrown("missing while checking", Check.MISSING, () -> x.build(0, 4));
        Check.counts("missing while checking", x, 8, 0, 0, 2, 3, 4, 3, 1, 1, 0, 0);
    }

    private static void thrownWhileLookingIntoTheCache() {
        TraceBuilder x = new TraceBuilder();
        x.input(0, 0L);
        x.task(1, 0, 0, -1, -1);
        x.task(2, 0, 1, -1, -1);
        x.build(0, 2);
        x.remove(0);
        Check.thrown("an entry's key is missing", Check.MISSING, () -> x.build(1, 2));
        Check.counts("no task ran", x, 2, 0, 0, 2, 0, 2, 1, 2, 2, 0, 0);
        Check.noTrace("nothing was taken", x, 1, 1);
        Check.noTrace("nothing was taken", x, 1, 2);
    }

    private static void circles() {
        TraceBuilder x = new TraceBuilder();
        x.task(0, 0, 0, -1, -1);
        Check.thrown("of one", Check.STATE, () -> x.build(0, 0));
        Check.counts("of one", x, 1, 0, 0, 0, 1, 1, 1, 0, 0, 0, 1);
        x.task(0, 0, 1, -1, -1);
        x.task(1, 0, 2, -1, -1);
        x.task(2, 0, 0, -1, -1);
        x.task(3, 0, 0, -1, -1);
        Check.thrown("of three", Check.STATE, () -> x.build(1, 3));
        Check.counts("of three", x, 5, 0, 0, 0, 5, 2, 2, 0, 0, 0, 2);
        x.task(4, 9, 5, 6, -1);
        x.input(5, 2L);
        x.input(6, 1L);
        Check.thrown("a limit is no circle", Check.STATE, () -> x.build(1, 4));
        Check.same("a limit is no circle", x.count(10), 2);
    }

    private static void circleThatIsMetWhileChecking() {
        TraceBuilder x = new TraceBuilder();
        x.input(0, 1L);
        x.task(1, 0, 0, -1, -1);
        x.build(0, 1);
        x.task(0, 0, 1, -1, -1);
        Check.thrown("by the own trace", Check.STATE, () -> x.build(0, 1));
        Check.counts("by the own trace", x, 2, 0, 0, 1, 1, 2, 1, 1, 1, 0, 1);
        Check.thrown("by the cache", Check.STATE, () -> x.build(1, 1));
        Check.counts("by the cache", x, 3, 0, 0, 1, 2, 3, 2, 1, 1, 0, 2);
        Check.thrown("stale", Check.STATE, () -> x.stale(1, 1));
        Check.counts("stale", x, 3, 0, 0, 1, 2, 3, 2, 1, 1, 0, 2);
    }

    /** Parts that stand in a circle are fine as long as nobody asks all the way round. */
    private static void brokenCircle() {
        TraceBuilder x = new TraceBuilder();
        x.input(0, 1L);
        x.input(1, 50L);
        x.task(2, 2, 0, 1, 3);
        x.task(3, 2, 0, 2, 1);
        Check.same("one way", x.build(0, 2), 50L);
        Check.same("one way", x.build(0, 3), 50L);
        x.input(0, 0L);
        Check.same("the other way", x.build(0, 3), 50L);
        Check.same("the other way", x.build(0, 2), 50L);
        Check.same("no circle", x.count(10), 0);
    }

    private static void twelveDeep() {
        TraceBuilder x = new TraceBuilder();
        x.input(0, 1L);
        for (int key = 1; key < 12; key++) {
            x.task(key, 0, key - 1, key - 1, key - 1);
        }
        Check.same("the last of twelve", x.build(0, 11), 177147L);
        Check.counts("the last of twelve", x, 33, 0, 0, 11, 0, 1, 0, 11, 11, 0, 0);
        x.task(0, 0, 11, -1, -1);
        Check.thrown("twelve in a circle", Check.STATE, () -> x.build(1, 5));
        Check.same("twelve in a circle", x.count(10), 1);
    }

    private static void badNumbers() {
        TraceBuilder x = new TraceBuilder();
        int[][] bad = {{-1, 0}, {2, 0}, {0, -1}, {0, 12}, {Integer.MIN_VALUE, 12},
            {0, Integer.MAX_VALUE}};
        for (int[] pair : bad) {
            Check.thrown("build", Check.BAD, () -> x.build(pair[0], pair[1]));
        }
        Check.counts("a bad call is no build", x, 0, 0, 0, 0, 0, 0, 0, 0, 0, 0, 0);
        Check.thrown("build of nothing", Check.MISSING, () -> x.build(0, 0));
        Check.counts("one of nothing is", x, 0, 0, 0, 0, 0, 1, 1, 0, 0, 0, 0);
    }
}
