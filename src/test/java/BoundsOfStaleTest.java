/** The boundary cases of promise 10. */
public final class BoundsOfStaleTest {
    public static void main(String[] args) {
        Check.sentence("Bad: a worker or a key too small or too large; it comes first",
                BoundsOfStaleTest::bad);
        Check.sentence("Whether building the key comes to RUN something: an INPUT",
                BoundsOfStaleTest::input);
        Check.sentence("comes to RUN something: CHECKED and TAKEN are no RUNS",
                BoundsOfStaleTest::notRun);
        Check.sentence("comes to RUN something: one far below alone",
                BoundsOfStaleTest::farBelow);
        Check.sentence("nothing is changed and nothing counted: CHECKED, TAKEN, RUN, at 16",
                BoundsOfStaleTest::nothingIsChanged);
        Check.sentence("What that would throw is thrown, and nothing is changed or counted",
                BoundsOfStaleTest::thrown);
        Check.sentence("as if built now: the worker's own TRACES", BoundsOfStaleTest::byWorker);
        Check.finish();
    }

    private static void bad() {
        int[][] numbers = {{-1, 2}, {2, 2}, {0, -1}, {0, 12}, {1, 12}, {-1, 12}, {2, 5}, {-1, 6},
            {Integer.MIN_VALUE, 2}, {Integer.MAX_VALUE, 2}, {0, Integer.MIN_VALUE},
            {0, Integer.MAX_VALUE}};
        for (int[] pair : numbers) {
            String what = "stale(" + pair[0] + ", " + pair[1] + ")";
            Twin.refused(Made::mixed, what, Check.BAD, x -> x.stale(pair[0], pair[1]));
            Twin.refused(TraceBuilder::new, what, Check.BAD, x -> x.stale(pair[0], pair[1]));
        }
    }

    private static void input() {
        TraceBuilder x = new TraceBuilder();
        x.input(0, 1L);
        x.input(11, 1L);
        Check.same("stale(0, 0)", x.stale(0, 0), false);
        Check.same("stale(1, 11)", x.stale(1, 11), false);
    }

    private static void notRun() {
        TraceBuilder x = Made.fullOfOneKey();
        Check.same("checked", x.stale(0, 1), false);
        Check.same("taken", x.stale(1, 1), false);
        x.input(0, 1L);
        Check.same("taken, the oldest", x.stale(0, 1), false);
        Check.same("taken, the oldest", x.stale(1, 1), false);
        x.input(0, 0L);
        Check.same("run", x.stale(0, 1), true);
        x.input(0, 17L);
        Check.same("run", x.stale(1, 1), true);
    }

    private static void farBelow() {
        TraceBuilder x = new TraceBuilder();
        x.input(0, 1L);
        x.task(1, Made.STEADY, 0, -1, -1);
        for (int key = 2; key < 12; key++) {
            x.task(key, Made.SUM, key - 1, -1, -1);
        }
        x.build(0, 11);
        Check.same("nothing changed", x.stale(0, 11), false);
        x.input(0, 2L);
        Check.same("key 1 alone runs", x.stale(0, 11), true);
        x.build(0, 11);
        Check.same("key 1 alone ran", x.count(3), 12);
        Check.same("and no more", x.stale(0, 11), false);
    }

    private static void nothingIsChanged() {
        Twin.unchanged(Made::full, "checked", x -> x.stale(0, 1));
        Twin.unchanged(Made::full, "taken", x -> x.stale(1, 1));
        Twin.unchanged(BoundsOfStaleTest::fullAndChanged, "run", x -> x.stale(0, 1));
        Twin.unchanged(BoundsOfStaleTest::fullAndChanged, "run", x -> x.stale(1, 1));
        for (int key = 0; key < 5; key++) {
            int k = key;
            Twin.unchanged(Made::mixed, "mixed " + k, x -> x.stale(k % 2, k));
            Twin.unchanged(Made::mixed, "mixed " + k, x -> x.stale(1 - k % 2, k));
        }
    }

    private static TraceBuilder fullAndChanged() {
        TraceBuilder x = Made.full();
        x.input(0, 16L);
        return x;
    }

    private static void thrown() {
        for (int worker = 0; worker < 2; worker++) {
            int w = worker;
            Twin.refused(Made::mixed, "nothing", Check.MISSING, x -> x.stale(w, 5));
            Twin.refused(Made::mixed, "a circle", Check.STATE, x -> x.stale(w, 6));
            Twin.refused(Made::mixed, "a missing part", Check.MISSING, x -> x.stale(w, 7));
            Twin.refused(Made::mixed, "by 0", Check.ARITHMETIC, x -> x.stale(w, 9));
            Twin.refused(Made::mixed, "a limit", Check.STATE, x -> x.stale(w, 10));
            Twin.refused(BoundsOfStaleTest::withoutKey0, "while checking", Check.MISSING,
                    x -> x.stale(w, 4));
        }
    }

    private static TraceBuilder withoutKey0() {
        TraceBuilder x = Made.mixed();
        x.remove(0);
        return x;
    }

    private static void byWorker() {
        TraceBuilder x = Made.full();
        x.shrink(0);
        Check.same("worker 0 has it", x.stale(0, 1), false);
        Check.same("worker 1 has not", x.stale(1, 1), true);
        x.forget(0);
        Check.same("worker 0 has it no more", x.stale(0, 1), true);
    }
}
