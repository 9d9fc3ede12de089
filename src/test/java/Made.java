/** Objects made ready for a test, each time anew. */
final class Made {
    static final int SUM = 0;
    static final int PRODUCT = 1;
    static final int CHOICE = 2;
    static final int QUOTIENT = 3;
    static final int POINTER = 4;
    static final int REST = 5;
    static final int GREATEST = 6;
    static final int UNTIL = 7;
    static final int STEADY = 8;
    static final int LIMIT = 9;

    private Made() {
    }

    /**
     * Inputs 0 and 1; tasks 2, 3, 4 and 11 with traces of both workers, new and old; a circle in 6,
     * a missing part in 7, a division by 0 in 9, a limit that is broken in 10; 5 and 8 are nothing.
     */
    static TraceBuilder mixed() {
        TraceBuilder x = new TraceBuilder();
        x.input(0, 9L);
        x.input(1, 0L);
        x.task(2, SUM, 0, 1, -1);
        x.task(3, PRODUCT, 2, 0, -1);
        x.task(4, CHOICE, 0, 3, 5);
        x.task(6, SUM, 6, -1, -1);
        x.task(7, SUM, 2, 8, -1);
        x.task(9, QUOTIENT, 2, 1, -1);
        x.task(10, LIMIT, 2, 1, -1);
        x.task(11, SUM, -1, -1, -1);
        x.build(0, 4);
        x.build(1, 3);
        x.build(0, 11);
        x.input(0, 7L);
        x.build(1, 2);
        x.build(1, 2);
        Check.thrown("made: circle", Check.STATE, () -> x.build(0, 6));
        Check.thrown("made: missing", Check.MISSING, () -> x.build(0, 7));
        return x;
    }

    /** Sixteen entries: the oldest for key 11, then key 1 as the sum of key 0 at 1 to 15. */
    static TraceBuilder full() {
        TraceBuilder x = new TraceBuilder();
        x.task(11, SUM, -1, -1, -1);
        x.build(0, 11);
        sumsOfKey0(x, 1, 15);
        return x;
    }

    /** Sixteen entries for key 1 alone: the sum of key 0 at 1 to 16. */
    static TraceBuilder fullOfOneKey() {
        TraceBuilder x = new TraceBuilder();
        sumsOfKey0(x, 1, 16);
        return x;
    }

    private static void sumsOfKey0(TraceBuilder x, int first, int last) {
        x.task(1, SUM, 0, -1, -1);
        for (int value = first; value <= last; value++) {
            x.input(0, value);
            x.build(0, 1);
        }
    }

    /** Twelve tasks without parts, built by worker 0: as many traces as there can be. */
    static TraceBuilder twelveTraces() {
        TraceBuilder x = new TraceBuilder();
        for (int key = 0; key < 12; key++) {
            x.task(key, SUM, -1, -1, -1);
            x.build(0, key);
        }
        return x;
    }
}
