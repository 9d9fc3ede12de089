/** Promise 3, and what each rule needs. */
public final class TaskTest {
    private static final int[] NEEDED = {0, 0, 3, 2, 1, 2, 0, 2, 1, 2};

    public static void main(String[] args) {
        everyRuleWithEveryNumberOfParts();
        badNumbers();
        badCallChangesNothing();
        sameTaskDoesNothing();
        otherTaskDropsTraces();
        inputBecomesTask();
        Check.finish();
    }

    private static void everyRuleWithEveryNumberOfParts() {
        for (int rule = 0; rule < 10; rule++) {
            for (int given = 0; given <= 3; given++) {
                TraceBuilder x = new TraceBuilder();
                int r = rule;
                int a = given > 0 ? 11 : -1;
                int b = given > 1 ? 0 : -1;
                int c = given > 2 ? 5 : -1;
                String what = "task with rule " + rule + " and " + given + " parts";
                if (given < NEEDED[rule]) {
                    Check.thrown(what, Check.BAD, () -> x.task(0, r, a, b, c));
                    Check.thrown(what + ": nothing", Check.MISSING, () -> x.remove(0));
                } else {
                    x.task(0, r, a, b, c);
                    x.remove(0);
                }
            }
        }
    }

    private static void badNumbers() {
        bad(-1, 0, 1, 1, 1);
        bad(12, 0, 1, 1, 1);
        bad(Integer.MIN_VALUE, 0, 1, 1, 1);
        bad(0, -1, 1, 1, 1);
        bad(0, 10, 1, 1, 1);
        bad(0, Integer.MAX_VALUE, 1, 1, 1);
        bad(0, 0, 12, 1, 1);
        bad(0, 0, 1, 12, 1);
        bad(0, 0, 1, 1, 12);
        bad(0, 0, -2, 1, 1);
        bad(0, 0, 1, -2, 1);
        bad(0, 0, 1, 1, -2);
        bad(0, 0, -2, -1, -1);
        bad(0, 0, -1, 1, -1);
        bad(0, 0, -1, -1, 1);
        bad(0, 0, -1, 1, 1);
        bad(0, 0, 1, -1, 1);
        bad(0, 3, 1, -1, 1);
    }

    private static void bad(int key, int rule, int a, int b, int c) {
        TraceBuilder x = new TraceBuilder();
        Check.thrown("task(" + key + ", " + rule + ", " + a + ", " + b + ", " + c + ")", Check.BAD,
                () -> x.task(key, rule, a, b, c));
    }

    private static void badCallChangesNothing() {
        TraceBuilder x = built();
        Check.thrown("task with a gap", Check.BAD, () -> x.task(2, 0, -1, 1, -1));
        Check.trace("after a bad task", x, 0, 2, 7L, 0, 3L, 1, 4L);
        Check.cache("after a bad task", x, 2);
        Check.same("after a bad task", x.stale(0, 2), false);
    }

    private static void sameTaskDoesNothing() {
        TraceBuilder x = built();
        x.task(2, 0, 0, 1, -1);
        Check.trace("same task", x, 0, 2, 7L, 0, 3L, 1, 4L);
        Check.trace("same task", x, 1, 2, 7L, 0, 3L, 1, 4L);
        Check.cache("same task", x, 2);
    }

    private static void otherTaskDropsTraces() {
        int[][] others = {{1, 0, 1, -1}, {0, 1, 1, -1}, {0, 0, 0, -1}, {0, 0, 1, 0}, {0, 0, -1, -1},
            {0, 1, 0, -1}};
        for (int[] other : others) {
            TraceBuilder x = built();
            x.task(3, 0, 2, -1, -1);
            x.build(0, 3);
            x.task(2, other[0], other[1], other[2], other[3]);
            Check.noTrace("other task", x, 0, 2);
            Check.noTrace("other task", x, 1, 2);
            Check.cache("other task", x, 3);
            Check.trace("other task: the one above it", x, 0, 3, 7L, 2, 7L);
            Check.same("other task", x.stale(1, 2), true);
        }
        thirdPartOfQuotientBelongsToIt();
    }

    private static void thirdPartOfQuotientBelongsToIt() {
        TraceBuilder x = built();
        x.task(4, 3, 1, 0, 2);
        Check.same("quotient with three parts", x.build(0, 4), 1L);
        Check.trace("the third is not asked", x, 0, 4, 1L, 1, 4L, 0, 3L);
        x.task(4, 3, 1, 0, -1);
        Check.noTrace("quotient with another third part", x, 0, 4);
    }

    private static TraceBuilder built() {
        TraceBuilder x = new TraceBuilder();
        x.input(0, 3L);
        x.input(1, 4L);
        x.task(2, 0, 0, 1, -1);
        x.build(0, 2);
        x.build(1, 2);
        return x;
    }

    private static void inputBecomesTask() {
        TraceBuilder x = built();
        x.task(0, 8, 1, -1, -1);
        Check.same("input set to a task", x.build(0, 2), 11L);
        x.input(0, 3L);
        Check.same("and back: the old value is new", x.build(0, 0), 3L);
    }
}
