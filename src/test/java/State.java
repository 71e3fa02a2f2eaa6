import java.util.function.ToIntFunction;

/**
 * What can be seen of a desk with a run of calls behind it, as a text: every look, and what some ways to go on would
 * answer (for the draft, the TYPES of NAMES and the TACTICS that undo takes back, no look tells). Each way starts from a
 * desk of its own with the same run behind it, and a desk that has no calls left is followed by another such one.
 */
final class State {
    private final Edges.Run run;
    private final StringBuilder seen = new StringBuilder();
    private Desk x;

    private State(Edges.Run run) {
        this.run = run;
        x = desk();
    }

    static String after(Edges.Run run) {
        State state = new State(run);
        state.counts();
        state.terms();
        state.theorems();
        state.goals();
        state.draftOn();
        state.namesOn();
        state.rulesOn();
        state.undoOn();
        state.closeOn();
        return state.seen.toString();
    }

    private Desk desk() {
        Desk fresh = new Desk();
        run.on(fresh);
        return fresh;
    }

    private void line(String what) {
        seen.append('\n').append(what).append(':');
    }

    private int note(int answer) {
        seen.append(' ').append(answer);
        return answer;
    }

    private int look(ToIntFunction<Desk> call) {
        if (x.left() == 0) x = desk();
        return note(call.applyAsInt(x));
    }

    private void counts() {
        line("counts");
        for (int what = 0; what < 5; what++) {
            int w = what;
            look(y -> y.count(w));
        }
    }

    private int howMany(int what) {
        if (x.left() == 0) x = desk();
        return x.count(what);
    }

    private void terms() {
        int all = howMany(0);
        for (int t = 0; t < all; t++) {
            line("TERM " + t);
            int n = t;
            int length = look(y -> y.term(n, 0));
            for (int what = 1; what < 4; what++) {
                int w = what;
                look(y -> y.term(n, w));
            }
            for (int i = 0; i < length; i++) {
                int at = i;
                look(y -> y.symbol(n, at, 0));
                look(y -> y.symbol(n, at, 1));
            }
        }
    }

    private void theorems() {
        int all = howMany(1);
        for (int p = 0; p < all; p++) {
            line("THEOREM " + p);
            int n = p;
            for (int what = 0; what < 6; what++) {
                int w = what;
                look(y -> y.theorem(n, w));
            }
            for (int k = 0; k < 7; k++) {
                int at = k;
                look(y -> y.hypothesis(n, at));
            }
        }
    }

    private void goals() {
        int all = howMany(3);
        for (int k = 0; k < all; k++) {
            line("open GOAL " + k);
            int n = k;
            for (int what = 0; what < 9; what++) {
                int w = what;
                look(y -> y.open(n, w));
            }
        }
    }

    /** The draft as it is, and with NAMES behind it, read. */
    private void draftOn() {
        for (int more = 0; more < 4; more++) {
            line("the draft and " + more);
            Desk y = desk();
            for (int i = 0; i < more; i++) note(y.token(0));
            int t = note(y.read());
            int length = note(y.term(t, 0));
            for (int i = 0; i < length && y.left() > 4; i++) {
                note(y.symbol(t, i, 0));
                note(y.symbol(t, i, 1));
            }
            note(y.count(0));
            note(y.clear());
        }
    }

    private void namesOn() {
        line("NAMES");
        Desk y = desk();
        for (int v = 0; v < 8 && y.left() > 0; v++) note(y.declare(v, 5));
        for (int v = 0; v < 8; v++) {
            Desk z = desk();
            z.clear();
            z.token(v);
            note(z.term(z.read(), 1));
        }
    }

    private void rulesOn() {
        line("a THEOREM more");
        Desk y = desk();
        int p = note(y.rule(0, 0, 0, 0));
        for (int what = 0; what < 6; what++) note(y.theorem(p, what));
        note(y.count(0));
    }

    private void undoOn() {
        line("undo");
        Desk y = desk();
        for (int i = 0; i < 31 && y.left() > 5; i++) {
            if (note(y.undo()) < 0) break;
            note(y.count(2));
            note(y.open(0, 0));
            note(y.open(0, 1));
        }
    }

    private void closeOn() {
        line("repeat and close");
        Desk y = desk();
        note(y.repeat(8));
        note(y.count(3));
        Desk z = desk();
        int p = note(z.close());
        for (int what = 0; what < 6; what++) note(z.theorem(p, what));
        note(z.count(1));
        note(z.count(2));
    }
}
