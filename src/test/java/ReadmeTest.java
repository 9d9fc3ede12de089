/** The example in README.md: the same calls, with the answers that its comments tell. */
public final class ReadmeTest {
    public static void main(String[] args) {
        TraceBuilder x = new TraceBuilder();
        x.input(0, 5);
        x.input(1, 3);
        x.task(2, 0, 0, 1, -1);
        Check.same("worker 0 builds key 2", x.build(0, 2), 8L);
        Check.same("which runs the task", x.count(3), 1);
        Check.same("worker 1 builds key 2", x.build(1, 2), 8L);
        Check.same("takes the trace from the cache", x.count(2), 1);
        x.input(1, 4);
        Check.same("a build would run something", x.stale(0, 2), true);
        Check.same("the key asked for first", x.trace(0, 2, 0), 0);
        Check.same("the value that came of it", x.traced(0, 2, -1), 8L);
        Check.same("one task has run to the end", x.count(3), 1);
        Check.finish();
    }
}
