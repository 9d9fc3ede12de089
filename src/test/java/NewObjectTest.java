/** Promise 1. */
public final class NewObjectTest {
    public static void main(String[] args) {
        TraceBuilder x = new TraceBuilder();
        Check.counts("new", x, 0, 0, 0, 0, 0, 0, 0, 0, 0, 0, 0);
        Check.cache("new", x);
        for (int key = 0; key < 12; key++) {
            int k = key;
            Check.thrown("remove(" + k + ")", Check.MISSING, () -> x.remove(k));
            for (int worker = 0; worker < 2; worker++) {
                int w = worker;
                Check.noTrace("new, worker " + w + ", key " + k, x, w, k);
                Check.thrown("build(" + w + ", " + k + ")", Check.MISSING, () -> x.build(w, k));
                Check.thrown("stale(" + w + ", " + k + ")", Check.MISSING, () -> x.stale(w, k));
            }
        }
        objectsDoNotShare();
        Check.finish();
    }

    private static void objectsDoNotShare() {
        TraceBuilder x = new TraceBuilder();
        x.task(0, 0, -1, -1, -1);
        x.build(0, 0);
        TraceBuilder y = new TraceBuilder();
        Check.counts("second object", y, 0, 0, 0, 0, 0, 0, 0, 0, 0, 0, 0);
        Check.thrown("second object: build", Check.MISSING, () -> y.build(0, 0));
        Check.counts("first object", x, 0, 0, 0, 1, 0, 1, 0, 1, 1, 0, 0);
    }
}
