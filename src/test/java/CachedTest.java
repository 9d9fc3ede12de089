/** Promise 11. */
public final class CachedTest {
    public static void main(String[] args) {
        TraceBuilder x = new TraceBuilder();
        int[] wrong = {0, 1, -1, 16, Integer.MIN_VALUE, Integer.MAX_VALUE};
        for (int i : wrong) {
            Check.thrown("empty: cached(" + i + ")", Check.MISSING, () -> x.cached(i));
        }
        x.input(0, 1L);
        x.task(7, 0, 0, -1, -1);
        x.task(3, 0, 7, -1, -1);
        x.task(5, 0, 3, 7, -1);
        x.build(0, 5);
        Check.cache("the deepest is the oldest", x, 7, 3, 5);
        x.input(0, 2L);
        x.build(1, 3);
        Check.cache("new ones behind", x, 7, 3, 5, 7, 3);
        x.task(3, 1, 7, -1, -1);
        Check.cache("those of 3 are gone", x, 7, 5, 7);
        Check.thrown("cached(3)", Check.MISSING, () -> x.cached(3));
        Check.thrown("cached(-1)", Check.MISSING, () -> x.cached(-1));
        x.build(1, 5);
        Check.cache("and built again", x, 7, 5, 7, 3, 5);
        Check.finish();
    }
}
