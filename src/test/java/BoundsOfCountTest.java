/** The boundary cases of promises 12 and 13. */
public final class BoundsOfCountTest {
    public static void main(String[] args) {
        Check.sentence("else -1", BoundsOfCountTest::unknown);
        Check.sentence("ASKS by TASKS that RAN (0): where they are made", BoundsOfCountTest::asks);
        Check.sentence("TASKS CHECKED and found the same (1): not those found other",
                BoundsOfCountTest::foundOther);
        Check.sentence("one that is TAKEN counts with 2 alone", BoundsOfCountTest::taken);
        Check.sentence("1 counts the TASKS FINISHED by the worker's own TRACE",
                BoundsOfCountTest::ownTrace);
        Check.sentence("RUN to the end (3): not those that threw", BoundsOfCountTest::toTheEnd);
        Check.sentence("RUNS that threw something in their own RULE or in what they asked for (4)",
                BoundsOfCountTest::brokenRuns);
        Check.sentence("builds (5) and those that threw something (6)", BoundsOfCountTest::builds);
        Check.sentence("entries in THE CACHE (7): none, sixteen", BoundsOfCountTest::entries);
        Check.sentence("TRACES of worker 0 and 1 (8, 9): none, twelve", BoundsOfCountTest::traces);
        Check.sentence("CIRCLES met (10): no other IllegalStateException",
                BoundsOfCountTest::circles);
        Check.sentence("Of all builds so far: nothing takes them back",
                BoundsOfCountTest::nothingTakesThemBack);
        Check.finish();
    }

    private static void unknown() {
        int[] numbers = {-1, 11, -2, 12, 16, 100, Integer.MIN_VALUE, Integer.MAX_VALUE};
        for (int what : numbers) {
            Twin.unchanged(Made::mixed, "count(" + what + ")",
                    x -> Check.same("count(" + what + ")", x.count(what), -1));
        }
    }

    private static void asks() {
        TraceBuilder x = new TraceBuilder();
        x.input(0, 1L);
        x.task(2, Made.SUM, 0, 1, 0);
        Check.thrown("the second part is missing", Check.MISSING, () -> x.build(0, 2));
        Check.same("two were made", x.count(0), 2);
        x.input(1, 1L);
        x.build(0, 2);
        Check.same("three more", x.count(0), 5);
        x.build(0, 2);
        x.build(1, 2);
        Check.same("CHECKING makes none", x.count(0), 5);
        x.task(3, Made.SUM, 2, 2, -1);
        x.build(1, 3);
        Check.same("for what is FINISHED too", x.count(0), 7);
    }

    private static void foundOther() {
        TraceBuilder x = Made.full();
        x.input(0, 16L);
        x.build(0, 1);
        Check.same("it ran", x.count(3), 17);
        Check.same("no entry or trace was the same", x.count(1), 0);
        Check.same("nor taken", x.count(2), 0);
    }

    private static void taken() {
        TraceBuilder x = Made.full();
        x.build(1, 1);
        Check.counts("without a trace", x, 15, 0, 1, 16, 0, 17, 0, 16, 2, 1, 0);
        x.input(0, 1L);
        x.build(1, 1);
        Check.counts("its own was other", x, 15, 0, 2, 16, 0, 18, 0, 16, 2, 1, 0);
    }

    private static void ownTrace() {
        TraceBuilder x = Made.full();
        x.build(0, 1);
        Check.counts("of a run", x, 15, 1, 0, 16, 0, 17, 0, 16, 2, 0, 0);
        x.build(1, 1);
        x.build(1, 1);
        Check.counts("of one that was taken", x, 15, 2, 1, 16, 0, 19, 0, 16, 2, 1, 0);
        x.build(0, 0);
        Check.same("not an INPUT", x.count(1), 2);
    }

    private static void toTheEnd() {
        TraceBuilder x = new TraceBuilder();
        x.input(0, 1L);
        x.task(1, Made.SUM, 0, -1, -1);
        x.task(2, Made.GREATEST, -1, -1, -1);
        x.task(3, Made.SUM, 1, 2, -1);
        Check.thrown("the second throws", Check.MISSING, () -> x.build(0, 3));
        Check.counts("the first came to its end", x, 3, 0, 0, 1, 2, 1, 1, 1, 1, 0, 0);
    }

    private static void brokenRuns() {
        TraceBuilder x = new TraceBuilder();
        x.input(0, 1L);
        x.input(1, 1L);
        x.task(2, Made.QUOTIENT, 0, 1, -1);
        x.task(3, Made.SUM, 2, -1, -1);
        x.task(4, Made.SUM, 3, -1, -1);
        x.build(0, 3);
        x.input(1, 0L);
        Check.thrown("own rule", Check.ARITHMETIC, () -> x.build(0, 2));
        Check.same("own rule", x.count(4), 1);
        Check.thrown("3 only CHECKS", Check.ARITHMETIC, () -> x.build(0, 3));
        Check.same("2 alone ran", x.count(4), 2);
        Check.thrown("4 has nothing to check", Check.ARITHMETIC, () -> x.build(0, 4));
        Check.same("2 and 4 ran", x.count(4), 4);
        x.forget(0);
        x.shrink(0);
        Check.thrown("all have nothing to check", Check.ARITHMETIC, () -> x.build(0, 4));
        Check.same("2, 3 and 4 ran", x.count(4), 7);
    }

    private static void builds() {
        TraceBuilder x = new TraceBuilder();
        Check.thrown("bad", Check.BAD, () -> x.build(2, 0));
        Check.same("a refused call is none", x.count(5), 0);
        Check.same("a refused call is none", x.count(6), 0);
        Check.thrown("nothing", Check.MISSING, () -> x.build(0, 0));
        Check.same("of NOTHING", x.count(5), 1);
        Check.same("of NOTHING", x.count(6), 1);
        x.input(0, 1L);
        x.build(1, 0);
        Check.same("of an INPUT", x.count(5), 2);
        Check.same("of an INPUT", x.count(6), 1);
        x.stale(0, 0);
        Check.same("stale is none", x.count(5), 2);
    }

    private static void entries() {
        TraceBuilder x = new TraceBuilder();
        x.task(1, Made.SUM, 0, -1, -1);
        for (int value = 1; value <= 20; value++) {
            Check.same("entries", x.count(7), Math.min(value - 1, 16));
            x.input(0, value);
            x.build(0, 1);
        }
        x.shrink(3);
        Check.same("cut", x.count(7), 3);
        x.remove(1);
        Check.same("removed", x.count(7), 0);
    }

    private static void traces() {
        TraceBuilder x = Made.twelveTraces();
        Check.same("worker 0", x.count(8), 12);
        Check.same("worker 1", x.count(9), 0);
        for (int key = 0; key < 12; key++) {
            x.build(1, key);
            Check.same("worker 1", x.count(9), key + 1);
        }
        x.remove(0);
        x.input(11, 1L);
        Check.same("worker 0, two gone", x.count(8), 10);
        Check.same("worker 1, two gone", x.count(9), 10);
        x.forget(0);
        Check.same("worker 0, forgotten", x.count(8), 0);
        Check.same("worker 1, not forgotten", x.count(9), 10);
    }

    private static void circles() {
        TraceBuilder x = new TraceBuilder();
        x.input(0, 2L);
        x.input(1, 1L);
        x.task(2, Made.LIMIT, 0, 1, -1);
        x.task(3, Made.SUM, 3, -1, -1);
        Check.thrown("a limit", Check.STATE, () -> x.build(0, 2));
        Check.same("a limit", x.count(10), 0);
        Check.thrown("a circle", Check.STATE, () -> x.build(0, 3));
        Check.same("a circle", x.count(10), 1);
        Check.thrown("stale", Check.STATE, () -> x.stale(0, 3));
        Check.same("stale", x.count(10), 1);
        Check.thrown("the same circle again", Check.STATE, () -> x.build(1, 3));
        Check.same("the same circle again", x.count(10), 2);
    }

    private static void nothingTakesThemBack() {
        TraceBuilder x = Made.mixed();
        int[] before = new int[11];
        for (int what = 0; what < 11; what++) {
            before[what] = x.count(what);
        }
        x.forget(0);
        x.forget(1);
        x.shrink(0);
        for (int key = 0; key < 12; key++) {
            if (key != 5 && key != 8) {
                x.remove(key);
            }
        }
        Check.counts("all gone", x, before[0], before[1], before[2], before[3], before[4],
                before[5], before[6], 0, 0, 0, before[10]);
    }
}
