/** A SequentDesk that counts its calls: the document leaves free what those behind the 512th answer, so no test asks. */
final class Desk {
    static final int MOST_CALLS = 512;
    private final SequentDesk inner = new SequentDesk();
    private int calls = 0;

    private SequentDesk next() {
        if (calls == MOST_CALLS) throw new IllegalStateException("a test uses one desk for more than 512 calls");
        calls++;
        return inner;
    }

    /** How many calls may still be made. */
    int left() {
        return MOST_CALLS - calls;
    }

    int function(int from, int to) {
        return next().function(from, to);
    }

    int declare(int v, int type) {
        return next().declare(v, type);
    }

    int token(int t) {
        return next().token(t);
    }

    int clear() {
        return next().clear();
    }

    int read() {
        return next().read();
    }

    int term(int t, int what) {
        return next().term(t, what);
    }

    int symbol(int t, int i, int what) {
        return next().symbol(t, i, what);
    }

    int rule(int kind, int a, int b, int c) {
        return next().rule(kind, a, b, c);
    }

    int theorem(int p, int what) {
        return next().theorem(p, what);
    }

    int hypothesis(int p, int k) {
        return next().hypothesis(p, k);
    }

    int goal(int t) {
        return next().goal(t);
    }

    int tactic(int kind, int x) {
        return next().tactic(kind, x);
    }

    int undo() {
        return next().undo();
    }

    int repeat(int n) {
        return next().repeat(n);
    }

    int open(int k, int what) {
        return next().open(k, what);
    }

    int close() {
        return next().close();
    }

    int count(int what) {
        return next().count(what);
    }
}
