/** What the tests of edges have in common: what is still taken, and what is refused and has changed nothing then. */
abstract class Edges {
    static final int APP = 8, EQ = 9, L = 10;
    static final int REFUSED = -1, SHAPE = -2, KIND = -3, UNFIT = -4, BIG = -5, FULL = -6, LATE = -7;
    static final int REFL = 0, ASSUME = 1, TRANS = 2, COMB = 3, ABS = 4, BETA = 5, EQMP = 6, DEDUCT = 7, INST = 8, EXACT = 8;
    static final int LEAST = Integer.MIN_VALUE, MOST = Integer.MAX_VALUE;

    /** Calls that bring a new desk to where an edge is. */
    interface Run {
        void on(Desk x);
    }

    interface Call {
        int on(Desk x);
    }

    static final Run NEW = x -> { };
    private static final Check check = new Check();

    static void takes(String sentence, Run before, Call call, int due) {
        Desk x = new Desk();
        before.on(x);
        check.due(sentence, call.on(x), due);
    }

    static void refuses(String sentence, Run before, Call call, int due) {
        takes(sentence, before, call, due);
        same(sentence + ": nothing has changed", before, x -> {
            before.on(x);
            call.on(x);
        });
    }

    /** Both runs lead to the same, as far as any call can tell. */
    static void same(String what, Run one, Run other) {
        String[] due = State.after(one).split("\n"), got = State.after(other).split("\n");
        for (int i = 0; i < Math.max(due.length, got.length); i++) {
            String want = i < due.length ? due[i] : "nothing", is = i < got.length ? got[i] : "nothing";
            if (want.equals(is)) continue;
            check.isTrue(what + ", but for [" + is + "], which was [" + want + "]", false);
            return;
        }
        check.isTrue(what, true);
    }

    static void end() {
        check.end();
    }

    /** 0, 1 of TRUTHS, 2 from TRUTHS to TRUTHS, 3 from THINGS to THINGS, the others THINGS. */
    static void names(Desk x) {
        x.declare(0, 4);
        x.declare(1, 4);
        x.declare(2, 48);
        x.declare(3, 53);
    }

    static Run after(Run... runs) {
        return x -> {
            for (Run run : runs) run.on(x);
        };
    }

    static int read(Desk x, int... tokens) {
        for (int t : tokens) x.token(t);
        return x.read();
    }

    static Run reads(int[]... drafts) {
        return x -> {
            for (int[] draft : drafts) read(x, draft);
        };
    }

    static Run writes(int... tokens) {
        return x -> {
            for (int t : tokens) x.token(t);
        };
    }

    static int[] join(int[]... parts) {
        int length = 0;
        for (int[] part : parts) length += part.length;
        int[] all = new int[length];
        int at = 0;
        for (int[] part : parts) {
            System.arraycopy(part, 0, all, at, part.length);
            at += part.length;
        }
        return all;
    }

    static int[] eq(int[] a, int[] b) {
        return join(new int[] {EQ}, a, b);
    }

    static int[] row(int... tokens) {
        return tokens;
    }

    /** A draft of so many SYMBOLS (not 2), of THINGS, with the NAMES 3 and 4 (and 5, if they are even). */
    static int[] thing(int symbols) {
        return tower(symbols, 3, row(4), row(APP, L + 7, 4, 5));
    }

    /** A draft of so many SYMBOLS (not 2), of TRUTHS, with the NAMES 2 and 0 (and 5, if they are even). */
    static int[] truth(int symbols) {
        return tower(symbols, 2, row(0), row(APP, L + 7, 0, 5));
    }

    private static int[] tower(int symbols, int function, int[] odd, int[] even) {
        int[] draft = symbols % 2 == 1 ? odd : even;
        while (draft.length < symbols) draft = join(row(APP, function), draft);
        return draft;
    }

    /** TERMS of the NAMES 4 to 7 and LAMs until there are so many; 2 to 6 calls for each. */
    static Run fill(int terms) {
        return x -> {
            int there = x.count(0);
            for (int i = 0; i < 64 && there < terms; i++) there = Math.max(there, read(x, filler(i)) + 1);
        };
    }

    private static int[] filler(int i) {
        if (i < 8) return row(i);
        if (i < 16) return row(L, i - 8);
        int[] equation = row(EQ, 4 + i / 4 % 4, 4 + i % 4);
        return i < 32 ? equation : i < 48 ? join(row(L), equation) : join(row(L, L), equation);
    }

    /** ASSUME of a TERM until there are so many THEOREMS. */
    static Run assumeUpTo(int theorems, int t) {
        return x -> {
            for (int p = x.count(1); p < theorems; p++) x.rule(ASSUME, t, 0, 0);
        };
    }

    static Call term(int t, int what) {
        return x -> x.term(t, what);
    }

    static Call symbol(int t, int i, int what) {
        return x -> x.symbol(t, i, what);
    }

    static Call rule(int kind, int a, int b, int c) {
        return x -> x.rule(kind, a, b, c);
    }

    static Call theorem(int p, int what) {
        return x -> x.theorem(p, what);
    }

    static Call hypothesis(int p, int k) {
        return x -> x.hypothesis(p, k);
    }

    static Call goal(int t) {
        return x -> x.goal(t);
    }

    static Call tactic(int kind, int arg) {
        return x -> x.tactic(kind, arg);
    }

    static Call open(int k, int what) {
        return x -> x.open(k, what);
    }

    static Call count(int what) {
        return x -> x.count(what);
    }

    /** A call as part of a run, its answer not looked at. */
    static Run does(Call... calls) {
        return x -> {
            for (Call call : calls) call.on(x);
        };
    }
}
