/** A GraftTrees that counts its calls: nothing is promised behind the 512th, so no test may rest on what it answers. */
final class Trees {
    private static final int CALLS_MOST = 512;

    private final GraftTrees trees;
    private int calls = 0;

    Trees(int threshold) {
        trees = new GraftTrees(threshold);
    }

    /** A loop of a test that waits for an answer which never comes ends here, too. */
    private GraftTrees counted() {
        if (calls == CALLS_MOST) {
            throw new IllegalStateException("a test makes more than 512 calls of one object");
        }
        calls++;
        return trees;
    }

    int callsLeft() {
        return CALLS_MOST - calls;
    }

    int feed(int a, int b, int c, int d, int e) {
        return counted().feed(a, b, c, d, e);
    }

    int load(int n) {
        return counted().load(n);
    }

    int fault(int what) {
        return counted().fault(what);
    }

    boolean start(long a, long b) {
        return counted().start(a, b);
    }

    int run(int n) {
        return counted().run(n);
    }

    int state() {
        return counted().state();
    }

    int error(int what) {
        return counted().error(what);
    }

    int result(int i) {
        return counted().result(i);
    }

    int out(int i) {
        return counted().out(i);
    }

    int compile() {
        return counted().compile();
    }

    int root(int r, int what) {
        return counted().root(r, what);
    }

    int node(int r, int k, int what) {
        return counted().node(r, k, what);
    }

    int shape(int s, int what) {
        return counted().shape(s, what);
    }

    int code(int c, int what) {
        return counted().code(c, what);
    }

    int frame(int k, int what) {
        return counted().frame(k, what);
    }

    int total(int what) {
        return counted().total(what);
    }
}
