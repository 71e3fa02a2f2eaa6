/** Promises 12 to 17: GOALS, the nine TACTICS, undo, repeat, open and close. */
public final class GoalTest {
    private static final int APP = 8, EQ = 9, L = 10;
    private static final int REFL = 0, ASSUME = 1, TRANS = 2, COMB = 3, ABS = 4, BETA = 5, EQMP = 6, DEDUCT = 7, EXACT = 8;
    private static final Check check = new Check();

    public static void main(String[] args) {
        goals();
        numbers();
        reflAndAssume();
        trans();
        comb();
        abs();
        beta();
        eqmp();
        deduct();
        exact();
        bigTactics();
        fullGoals();
        fullTerms();
        undoes();
        repeats();
        repeatsNames();
        repeatsFull();
        opens();
        closes();
        closesDeduct();
        closesHypotheses();
        closesExact();
        closesFull();
        check.end();
    }

    /** 0, 1 of TRUTHS, 2 from TRUTHS to TRUTHS, 3 from THINGS to THINGS, the others THINGS. */
    private static Desk desk() {
        Desk x = new Desk();
        x.declare(0, 4);
        x.declare(1, 4);
        x.declare(2, 48);
        x.declare(3, 53);
        return x;
    }

    /** A new desk with a draft as the GOAL. */
    private static Desk aim(int... draft) {
        Desk x = desk();
        x.goal(Check.read(x, draft));
        return x;
    }

    /** The k-th open GOAL is what a draft would be read as, and has so many HYPOTHESES. */
    private static void wants(String what, Desk x, int k, int hypotheses, int... draft) {
        int made = x.count(0);
        check.due(what, x.open(k, 0), Check.read(x, draft));
        check.due(what + " was there already", x.count(0), made);
        x.clear();
        check.due(what + ": how many HYPOTHESES", x.open(k, 1), hypotheses);
    }

    private static void goals() {
        Desk x = desk();
        int t = Check.read(x, EQ, 4, 5), a = Check.read(x, 0), thing = Check.read(x, 4);
        check.due("goal of a TERM that is not there", x.goal(3), -1);
        check.due("goal(-1)", x.goal(-1), -1);
        check.due("goal of THINGS", x.goal(thing), -4);
        check.due("no GOALS", x.count(2), 0);
        check.due("goal", x.goal(t), 1);
        check.due("its TERM", x.open(0, 0), t);
        check.due("no HYPOTHESES", x.open(0, 1), 0);
        check.due("TRANS", x.tactic(TRANS, thing), 2);
        check.due("goal of THINGS", x.goal(thing), -4);
        check.due("the GOALS stay", x.count(2), 3);
        check.due("another goal", x.goal(a), 1);
        check.due("the only one", x.count(2), 1);
        check.due("open", x.count(3), 1);
        check.due("no TACTIC since goal", x.undo(), -1);
    }

    private static void numbers() {
        Desk x = aim(EQ, 4, 5);
        x.rule(REFL, 0, 0, 0);
        String before = Check.counts(x);
        check.due("kind -1", x.tactic(-1, 0), -1);
        check.due("kind 9", x.tactic(9, 0), -1);
        check.due("TRANS without a TERM", x.tactic(TRANS, x.count(0)), -1);
        check.due("TRANS -1", x.tactic(TRANS, -1), -1);
        check.due("EQMP without a TERM", x.tactic(EQMP, x.count(0)), -1);
        check.due("EQMP -1", x.tactic(EQMP, -1), -1);
        check.due("ABS without a NAME", x.tactic(ABS, 8), -1);
        check.due("ABS -1", x.tactic(ABS, -1), -1);
        check.due("EXACT without a THEOREM", x.tactic(EXACT, 1), -1);
        check.due("EXACT -1", x.tactic(EXACT, -1), -1);
        check.same("nothing has changed", Check.counts(x), before);
        Desk y = aim(EQ, 4, 4);
        check.due("REFL does not look at x", y.tactic(REFL, -77), 0);
        check.due("none is open then", y.tactic(REFL, 0), -1);
        check.due("none is open for TRANS", y.tactic(TRANS, 0), -1);
    }

    private static void reflAndAssume() {
        check.due("REFL", aim(EQ, APP, 3, 4, APP, 3, 4).tactic(REFL, 0), 0);
        check.due("REFL of others", aim(EQ, APP, 3, 4, APP, 3, 5).tactic(REFL, 0), -4);
        check.due("REFL of lengths that differ", aim(EQ, APP, 3, 4, 4).tactic(REFL, 0), -4);
        check.due("REFL of no EQ", aim(APP, 2, 0).tactic(REFL, 0), -4);
        check.due("REFL of a NAME", aim(0).tactic(REFL, 0), -4);
        check.due("ASSUME without HYPOTHESES", aim(0).tactic(ASSUME, 0), -4);
        Desk x = aim(EQ, 0, 0);
        check.due("DEDUCT", x.tactic(DEDUCT, 0), 2);
        check.due("ASSUME", x.tactic(ASSUME, -5), 1);
        check.due("ASSUME", x.tactic(ASSUME, 99), 0);
        Desk y = aim(EQ, 0, 1);
        y.tactic(DEDUCT, 0);
        check.due("not in H", y.tactic(ASSUME, 0), -4);
    }

    private static void trans() {
        Desk x = aim(EQ, 4, 5);
        int t = Check.read(x, APP, 3, 6);
        check.due("TRANS", x.tactic(TRANS, t), 2);
        check.due("the first new TERM", x.open(0, 0), 2);
        check.due("the second new TERM", x.open(1, 0), 3);
        wants("the first GOAL", x, 0, 0, EQ, 4, APP, 3, 6);
        wants("the second GOAL", x, 1, 0, EQ, APP, 3, 6, 5);
        check.due("of another TYPE", x.tactic(TRANS, Check.read(x, 0)), -4);
        check.due("no EQ", aim(0).tactic(TRANS, 0), -4);
        check.due("EQ of TRUTHS", aim(EQ, 0, 1).tactic(TRANS, 0), 2);
    }

    private static void comb() {
        Desk x = aim(EQ, APP, 3, 4, APP, L + 4, 4, 5);
        check.due("COMB", x.tactic(COMB, -1), 2);
        check.due("the first new TERM", x.open(0, 0), 1);
        wants("the functions", x, 0, 0, EQ, 3, L + 4, 4);
        wants("what they are used on", x, 1, 0, EQ, 4, 5);
        check.due("what is open first", x.tactic(COMB, 0), -4);
        check.due("one side is no APP", aim(EQ, APP, 3, 4, 5).tactic(COMB, 0), -4);
        check.due("the other side is no APP", aim(EQ, 5, APP, 3, 4).tactic(COMB, 0), -4);
        check.due("functions of other TYPES", aim(EQ, APP, L + 4, 4, 5, APP, L + 4, 5, 0).tactic(COMB, 0), -4);
        check.due("no EQ", aim(APP, 2, 0).tactic(COMB, 0), -4);
    }

    private static void abs() {
        Desk x = aim(EQ, L + 4, L + 5, EQ, 4, 5, L + 4, L + 5, EQ, 5, 6);
        check.due("a NAME in it", x.tactic(ABS, 6), -4);
        check.due("a NAME of another TYPE", x.tactic(ABS, 0), -4);
        check.due("ABS", x.tactic(ABS, 7), 1);
        wants("the bodies", x, 0, 0, EQ, L + 5, EQ, 7, 5, L + 5, EQ, 5, 6);
        check.due("the NAME is in it now", x.tactic(ABS, 7), -4);
        check.due("ABS again", x.tactic(ABS, 4), 1);
        wants("their bodies", x, 0, 0, EQ, EQ, 7, 4, EQ, 4, 6);
        check.due("three GOALS", x.count(2), 3);
        check.due("no LAMs", x.tactic(ABS, 5), -4);
        check.due("one LAM", aim(EQ, L + 4, 4, 3).tactic(ABS, 4), -4);
        check.due("the other LAM", aim(EQ, 3, L + 4, 4).tactic(ABS, 4), -4);
        check.due("no EQ", aim(APP, L + 4, 0, 5).tactic(ABS, 4), -4);
        Desk y = aim(EQ, EQ, L + 4, 4, 3, EQ, L + 4, 4, L + 4, 5);
        check.due("DEDUCT", y.tactic(DEDUCT, 0), 2);
        check.due("not two LAMs", y.tactic(ABS, 4), -4);
        Desk z = aim(EQ, EQ, L + 4, 4, L + 4, 5, EQ, 6, 7);
        check.due("DEDUCT puts EQ 6 7 before EQ of LAMs", z.tactic(DEDUCT, 0), 2);
        check.due("a NAME in it", z.tactic(ABS, 5), -4);
        check.due("a NAME in H", z.tactic(ABS, 6), -4);
        check.due("another NAME in H", z.tactic(ABS, 7), -4);
        check.due("a NAME in neither", z.tactic(ABS, 4), 2);
        wants("H stays", z, 0, 1, EQ, 4, 5);
    }

    private static void beta() {
        check.due("BETA", aim(EQ, APP, L + 4, APP, 3, 4, 5, APP, 3, 5).tactic(BETA, -3), 0);
        check.due("under a LAM", aim(EQ, APP, L + 4, L + 5, EQ, 4, 5, 6, L + 7, EQ, 6, 7).tactic(BETA, 0), 0);
        check.due("another right side", aim(EQ, APP, L + 4, APP, 3, 4, 5, APP, 3, 6).tactic(BETA, 0), -4);
        check.due("a longer right side", aim(EQ, APP, L + 4, 4, 5, APP, 3, 5).tactic(BETA, 0), -4);
        check.due("the other way", aim(EQ, APP, 3, 5, APP, L + 4, APP, 3, 4, 5).tactic(BETA, 0), -4);
        check.due("no LAM", aim(EQ, APP, 3, 5, APP, 3, 5).tactic(BETA, 0), -4);
        check.due("no APP", aim(EQ, L + 4, 4, L + 4, 4).tactic(BETA, 0), -4);
        check.due("no EQ", aim(APP, L, 0, 1).tactic(BETA, 0), -4);
        check.due("what BETA gives is too long", aim(EQ, APP, L + 4, EQ, EQ, 4, 4, EQ, 4, 4,
            APP, 3, APP, 3, APP, 3, APP, 3, 5, 0).tactic(BETA, 0), -4);
        // The right side has the same SYMBOLS, but its LAM is on THINGS, not on TRUTHS.
        check.due("other TYPES", aim(EQ, APP, L + 4, APP, L + 5, 4, 0, 0, APP, L + 5, 0, 7).tactic(BETA, 0), -4);
        Desk x = aim(EQ, APP, L + 4, APP, 3, 4, 5, APP, 3, 5);
        x.tactic(BETA, 0);
        check.due("no TERM is made", x.count(0), 1);
    }

    private static void eqmp() {
        Desk x = aim(APP, 2, 0);
        int t = Check.read(x, 1), thing = Check.read(x, 4);
        check.due("of THINGS", x.tactic(EQMP, thing), -4);
        check.due("EQMP", x.tactic(EQMP, t), 2);
        check.due("the TERM itself", x.open(1, 0), t);
        check.due("the new TERM", x.open(0, 0), 3);
        wants("EQ of it and the GOAL", x, 0, 0, EQ, 1, APP, 2, 0);
    }

    private static void deduct() {
        Desk x = aim(EQ, APP, 2, 0, 1);
        check.due("DEDUCT", x.tactic(DEDUCT, 55), 2);
        check.due("the HYPOTHESIS is made first", x.open(0, 2), 1);
        check.due("then its TERM", x.open(0, 0), 2);
        check.due("the second GOAL's HYPOTHESIS", x.open(1, 2), 2);
        check.due("the second GOAL's TERM", x.open(1, 0), 1);
        wants("the first GOAL", x, 0, 1, APP, 2, 0);
        wants("the second GOAL", x, 1, 1, 1);
        check.due("EQ of THINGS", aim(EQ, 4, 5).tactic(DEDUCT, 0), -4);
        check.due("EQ of FUNCTIONS", aim(EQ, 2, 2).tactic(DEDUCT, 0), -4);
        check.due("no EQ", aim(0).tactic(DEDUCT, 0), -4);
        Desk y = aim(EQ, EQ, 0, 1, 0);
        y.tactic(DEDUCT, 0);
        check.due("DEDUCT with 0 in H", y.tactic(DEDUCT, 0), 3);
        wants("H + 1, 0", y, 0, 2, 0);
        check.due("0 first", y.open(0, 2), 1);
        check.due("then 1", y.open(0, 3), 3);
        wants("H + 0 is H", y, 1, 1, 1);
    }

    private static void exact() {
        Desk x = desk();
        int eq = Check.read(x, EQ, 0, 1), a = Check.read(x, 0), b = Check.read(x, 1);
        int p = x.rule(ASSUME, eq, 0, 0), q = x.rule(ASSUME, a, 0, 0);
        int r = x.rule(EQMP, p, q, 0);
        int closed = x.rule(REFL, a, 0, 0);
        x.goal(Check.read(x, EQ, 0, 0));
        check.due("EXACT of another CONCLUSION", x.tactic(EXACT, q), -4);
        check.due("EXACT", x.tactic(EXACT, closed), 0);
        x.goal(b);
        check.due("HYPOTHESES that are not in H", x.tactic(EXACT, r), -4);
        x.goal(Check.read(x, EQ, EQ, 0, 1, EQ, 0, 1));
        x.tactic(DEDUCT, 0);
        check.due("EXACT with a HYPOTHESIS", x.tactic(EXACT, p), 1);
        check.due("DEDUCT", x.tactic(DEDUCT, 0), 2);
        check.due("one HYPOTHESIS is in H, not this one", x.tactic(EXACT, q), -4);
        x.undo();
        check.due("EXACT again", x.tactic(EXACT, p), 0);
    }

    private static void bigTactics() {
        Desk x = aim(EQ, APP, 3, APP, 3, APP, 3, APP, 3, APP, 3, 4, 5);
        int twelve = Check.read(x, APP, L, APP, 3, APP, 3, 0, APP, 3, APP, 3, 4);
        int thirteen = Check.read(x, APP, 3, APP, 3, APP, 3, APP, 3, APP, 3, APP, 3, 4);
        String before = Check.counts(x);
        check.due("25 SYMBOLS", x.tactic(TRANS, thirteen), -5);
        check.same("nothing has changed", Check.counts(x), before);
        check.due("24 SYMBOLS", x.tactic(TRANS, twelve), 2);
        Desk y = aim(EQ, 5, APP, 3, APP, 3, APP, 3, APP, 3, APP, 3, 4);
        int other = Check.read(y, APP, 3, APP, 3, APP, 3, APP, 3, APP, 3, APP, 3, 4);
        check.due("the second GOAL has 25", y.tactic(TRANS, other), -5);
        check.due("the TERM of the first one is not made", y.count(0), 2);
        Desk z = aim(EQ, 4, APP, 3, APP, 3, APP, 3, APP, 3, 4);
        int eq13 = Check.read(z, EQ, APP, 3, 4, APP, 3, APP, 3, APP, 3, APP, 3, 4);
        int eq11 = Check.read(z, EQ, 5, APP, 3, APP, 3, APP, 3, APP, 3, 4);
        check.due("EQMP of 25", z.tactic(EQMP, eq13), -5);
        check.due("EQMP of 23", z.tactic(EQMP, eq11), 2);
        Desk w = desk();
        int[][] drafts = {{EQ, 0, 0}, {EQ, 0, 1}, {EQ, 1, 0}, {EQ, 1, 1}, {0}, {1}, {APP, 2, 0}, {APP, 2, 1}};
        int[] ts = new int[8];
        for (int k = 0; k < 8; k++) ts[k] = Check.read(w, drafts[k]);
        w.goal(ts[0]);
        for (int k = 1; k < 7; k++) {
            // EQMP puts EQ of TRUTHS first, which DEDUCT takes apart: H gets the GOAL's own TERM.
            check.due("EQMP " + k, w.tactic(EQMP, ts[k]), 2 * k);
            check.due("DEDUCT " + k, w.tactic(DEDUCT, 0), 2 * k + 1);
            check.due("so many HYPOTHESES", w.open(0, 1), k);
        }
        check.due("EQMP 7", w.tactic(EQMP, ts[7]), 14);
        String full = Check.counts(w);
        check.due("seven HYPOTHESES", w.tactic(DEDUCT, 0), -5);
        check.same("nothing has changed", Check.counts(w), full);
    }

    private static void fullGoals() {
        Desk x = aim(EQ, L + 4, 4, L + 4, 4);
        int t = Check.read(x, L + 4, 4);
        for (int i = 1; i <= 14; i++) check.due("TRANS " + i, x.tactic(TRANS, t), i + 1);
        check.due("29 GOALS", x.count(2), 29);
        check.due("31 would be too many", x.tactic(TRANS, t), -6);
        check.due("still 29", x.count(2), 29);
        check.due("UNFIT is tested before", x.tactic(TRANS, Check.read(x, 0)), -4);
        check.due("ABS makes 30", x.tactic(ABS, 4), 15);
        check.due("30 GOALS", x.count(2), 30);
        check.due("REFL leaves none", x.tactic(REFL, 0), 14);
        check.due("ABS would make 31", x.tactic(ABS, 4), -6);
        for (int i = 13; i >= 0; i--) check.due("REFL", x.tactic(REFL, 0), i);
        check.due("close of all", x.close(), 29);
        check.due("THEOREMS", x.count(1), 30);
        check.due("it rests on all", x.theorem(29, 5), 30);
    }

    private static void fullTerms() {
        Desk x = new Desk();
        x.declare(0, 53);
        int aim = Check.read(x, EQ, 1, 2);
        for (int i = 0; x.count(0) < 49; i++) Check.read(x, EQ, 1 + i / 7, 1 + i % 7);
        for (int v = 0; v < 8; v++) Check.read(x, v);
        int one = 0;
        for (int n = 1; n <= 6; n++) {
            int[] tower = new int[2 * n + 1];
            for (int i = 0; i < 2 * n; i += 2) {
                tower[i] = APP;
                tower[i + 1] = 0;
            }
            tower[2 * n] = 1;
            one = Check.read(x, tower);
        }
        check.due("63 TERMS", x.count(0), 63);
        x.goal(aim);
        check.due("two new TERMS", x.tactic(TRANS, one), -6);
        check.due("none is made", x.count(0), 63);
        check.due("the GOAL stays", x.count(3), 1);
        check.due("one that is there", x.tactic(TRANS, Check.read(x, 3)), 2);
        check.due("63 TERMS still", x.count(0), 63);
        check.due("the 64th", x.tactic(EQMP, Check.read(x, EQ, 7, 7)), 3);
        check.due("64 TERMS", x.count(0), 64);
        check.due("a 65th", x.tactic(EQMP, Check.read(x, EQ, 7, 6)), -6);
        check.due("three open still", x.count(3), 3);
        check.due("DEDUCT of what is there", x.tactic(DEDUCT, 0), 4);
    }

    private static void undoes() {
        Desk x = aim(EQ, APP, 3, 4, APP, 3, 5);
        check.due("undo without TACTICS", x.undo(), -1);
        x.tactic(COMB, 0);
        x.tactic(REFL, 0);
        check.due("terms", x.count(0), 3);
        check.due("one is open", x.count(3), 1);
        check.due("undo of REFL", x.undo(), 2);
        wants("it is first again", x, 0, 0, EQ, 3, 3);
        check.due("undo of COMB", x.undo(), 1);
        check.due("what it left is gone", x.count(2), 1);
        check.due("its TERMS stay", x.count(0), 3);
        wants("the first GOAL", x, 0, 0, EQ, APP, 3, 4, APP, 3, 5);
        check.due("no more", x.undo(), -1);
        check.due("the GOAL stays", x.count(2), 1);
        x.tactic(COMB, 0);
        check.due("a TACTIC that is refused is none", x.tactic(ASSUME, 0), -4);
        check.due("undo of COMB again", x.undo(), 1);
        Desk y = aim(EQ, 4, 4);
        y.tactic(REFL, 0);
        check.due("undo of the last TACTIC", y.undo(), 1);
        y.tactic(REFL, 0);
        check.due("close", y.close(), 0);
        check.due("undo after close", y.undo(), -1);
        Desk z = aim(EQ, APP, 3, 4, APP, 3, 4);
        check.due("repeat(8)", z.repeat(8), 1);
        check.due("undo of a TACTIC of repeat", z.undo(), 1);
        Desk w = aim(EQ, APP, 3, 4, APP, 3, 5);
        check.due("repeat does two", w.repeat(8), 2);
        check.due("undo takes back one of them", w.undo(), 2);
        check.due("and the other", w.undo(), 1);
        check.due("and no more", w.undo(), -1);
    }

    private static void repeats() {
        Desk x = aim(EQ, L + 4, APP, 3, 4, L + 4, APP, 3, 5);
        check.due("repeat(0)", x.repeat(0), -1);
        check.due("repeat(9)", x.repeat(9), -1);
        check.due("repeat(-1)", x.repeat(-1), -1);
        check.due("once", x.repeat(1), 1);
        wants("ABS with the least NAME of THINGS", x, 0, 0, EQ, APP, 3, 4, APP, 3, 5);
        check.due("twice", x.repeat(2), 2);
        wants("COMB and REFL", x, 0, 0, EQ, 4, 5);
        check.due("none goes", x.repeat(8), 0);
        Desk y = aim(EQ, L + 7, EQ, 7, 4, L + 7, EQ, 7, 4);
        check.due("REFL goes before ABS", y.repeat(8), 1);
        check.due("none is open", y.repeat(8), 0);
        Desk z = aim(EQ, APP, L + 4, 4, 5, APP, L + 4, 4, 5);
        z.repeat(1);
        check.due("REFL goes before COMB", z.count(3), 0);
        Desk b = aim(EQ, APP, L + 4, APP, 3, 4, 5, APP, 3, 5);
        check.due("BETA goes before COMB", b.repeat(8), 1);
        b.close();
        check.due("its RULE", b.theorem(0, 2), BETA);
        Desk a = aim(EQ, EQ, 4, 5, EQ, 4, 5);
        a.tactic(DEDUCT, 0);
        check.due("ASSUME twice", a.repeat(8), 2);
        Desk r = aim(EQ, EQ, 4, 4, EQ, 4, 4);
        r.tactic(DEDUCT, 0);
        r.repeat(2);
        r.close();
        check.due("REFL goes before ASSUME", r.theorem(0, 2), REFL);
        Desk deep = aim(EQ, APP, 3, APP, 3, APP, 3, APP, 3, APP, 3, 4, APP, 3, APP, 3, APP, 3, APP, 3, APP, 3, 5);
        check.due("eight times", deep.repeat(8), 8);
        check.due("COMB and REFL of the fifth", deep.repeat(8), 2);
        check.due("one is open", deep.count(3), 1);
        Desk names = aim(EQ, L + 7, EQ, EQ, 4, 5, EQ, 6, 7, L + 7, EQ, EQ, 4, 5, EQ, 7, 6);
        check.due("only NAME 7 goes", names.repeat(1), 1);
        wants("NAME 7", names, 0, 0, EQ, EQ, EQ, 4, 5, EQ, 6, 7, EQ, EQ, 4, 5, EQ, 7, 6);
        Desk no = aim(EQ, L + 7, APP, 2, 0, L + 7, APP, 2, 1);
        check.due("ABS of what is not in the bodies", no.repeat(1), 1);
        wants("no variable is left", no, 0, 0, EQ, APP, 2, 0, APP, 2, 1);
    }

    /** One NAME alone, or two, have the TYPE of the variables. */
    private static void repeatsNames() {
        for (int v = 0; v < 8; v++) {
            for (int w = v; w < 8; w++) {
                Desk x = new Desk();
                x.declare(v, 48);
                x.declare(w, 48);
                // The variable is used on TRUTHS, and gives TRUTHS.
                x.goal(Check.read(x, EQ, L, EQ, APP, 0, EQ, L, 0, L, 0, EQ, L, 0, L, 0, L, EQ, L, 0, L, 0));
                check.due("repeat with " + v + " and " + w, x.repeat(1), 1);
                check.due("the least NAME that goes", x.term(x.open(0, 0), 2), 1 << v);
            }
        }
    }

    /** With 64 TERMS, ABS goes with the least NAME whose TERM is there. */
    private static void repeatsFull() {
        Desk x = new Desk();
        int goal = Check.read(x, EQ, L + 7, EQ, 7, 7, L + 7, EQ, 7, 0);
        Check.read(x, EQ, EQ, 5, 5, EQ, 5, 0);
        for (int i = 0; i < 62; i++) Check.read(x, EQ, i / 8, i % 8);
        check.due("64 TERMS", x.count(0), 64);
        x.goal(goal);
        check.due("ABS 1 has no room", x.tactic(ABS, 1), -6);
        check.due("repeat", x.repeat(1), 1);
        wants("ABS 5", x, 0, 0, EQ, EQ, 5, 5, EQ, 5, 0);
    }

    private static void opens() {
        Desk x = aim(EQ, EQ, 0, 1, EQ, 1, 0);
        x.tactic(DEDUCT, 0);
        x.tactic(DEDUCT, 0);
        check.due("three are open", x.count(3), 3);
        check.due("the first one's HYPOTHESES", x.open(0, 1), 2);
        check.due("HYPOTHESIS 0", x.open(0, 2), 1);
        check.due("HYPOTHESIS 1", x.open(0, 3), 3);
        check.due("HYPOTHESIS 2", x.open(0, 4), -1);
        check.due("what -1", x.open(0, -1), -1);
        check.due("a large what", x.open(0, Integer.MAX_VALUE), -1);
        check.due("a small what", x.open(0, Integer.MIN_VALUE), -1);
        check.due("the last one's TERM", x.open(2, 0), 1);
        check.due("GOAL 3", x.open(3, 0), -1);
        check.due("GOAL -1", x.open(-1, 0), -1);
    }

    private static void closes() {
        Desk x = desk();
        int start = x.rule(REFL, Check.read(x, 7), 0, 0);
        int goal = Check.read(x, EQ, APP, 3, APP, L + 4, 4, 5, APP, 3, 5);
        x.goal(goal);
        check.due("close with one open", x.close(), -1);
        x.tactic(TRANS, Check.read(x, APP, 3, 5));
        x.tactic(COMB, 0);
        x.tactic(REFL, 0);
        x.tactic(BETA, 0);
        check.due("one is open", x.close(), -1);
        x.tactic(REFL, 0);
        int terms = x.count(0);
        check.due("close", x.close(), start + 5);
        check.due("no TERMS are made", x.count(0), terms);
        check.due("no GOALS", x.count(2), 0);
        check.due("none open", x.count(3), 0);
        check.due("close again", x.close(), -1);
        int[] kinds = {REFL, BETA, COMB, REFL, TRANS};
        for (int i = 0; i < 5; i++) check.due("RULE of THEOREM " + (start + 1 + i), x.theorem(start + 1 + i, 2), kinds[i]);
        check.due("COMB of", x.theorem(start + 3, 3), start + 1);
        check.due("COMB and", x.theorem(start + 3, 4), start + 2);
        check.due("TRANS of", x.theorem(start + 5, 3), start + 3);
        check.due("TRANS and", x.theorem(start + 5, 4), start + 4);
        check.due("it says", x.theorem(start + 5, 0), goal);
        check.due("without HYPOTHESES", x.theorem(start + 5, 1), 0);
        check.due("it rests on", x.theorem(start + 5, 5), 5);
        Desk y = aim(EQ, L + 4, APP, L + 5, 5, 4, L + 4, 4);
        y.tactic(ABS, 6);
        y.tactic(BETA, 0);
        check.due("close of ABS", y.close(), 1);
        check.due("ABS of", y.theorem(1, 3), 0);
        check.due("and none", y.theorem(1, 4), -1);
        check.due("ABS says", y.theorem(1, 0), 0);
    }

    private static void closesDeduct() {
        // EQ (EQ 0 1) (EQ 1 0): each half is DEDUCT of EQMPs.
        Desk x = aim(EQ, EQ, 0, 1, EQ, 1, 0);
        check.due("DEDUCT", x.tactic(DEDUCT, 0), 2);
        wants("EQ 1 0 makes EQ 0 1", x, 0, 1, EQ, 0, 1);
        check.due("DEDUCT", x.tactic(DEDUCT, 0), 3);
        wants("and 1 makes 0", x, 0, 2, 0);
        int one = Check.read(x, 1);
        check.due("EQMP 1", x.tactic(EQMP, one), 4);
        check.due("ASSUME twice", x.repeat(2), 2);
        wants("0 makes 1", x, 0, 2, 1);
        check.due("EQMP 1 of itself", x.tactic(EQMP, one), 3);
        check.due("REFL", x.tactic(REFL, 0), 2);
        check.due("1 is not in H", x.tactic(ASSUME, 0), -4);
        x.undo();
        x.undo();
        // 1 out of EQ 1 0 and 0 needs EQ 0 1, which DEDUCT makes of EQMP and ASSUME: a loop, so it stays open.
        check.due("two are open", x.count(3), 2);
        check.due("close", x.close(), -1);
        Desk y = aim(EQ, 0, 0);
        y.tactic(DEDUCT, 0);
        y.repeat(8);
        check.due("close of DEDUCT", y.close(), 2);
        check.due("ASSUME has one HYPOTHESIS", y.theorem(0, 1), 1);
        check.due("the second one too", y.theorem(1, 1), 1);
        check.due("which is 0", y.hypothesis(1, 0), 1);
        check.due("DEDUCT has none", y.theorem(2, 1), 0);
        Desk z = desk();
        z.goal(Check.read(z, EQ, EQ, 0, 1, EQ, 0, 1));
        int a = Check.read(z, EQ, 0, 1);
        z.tactic(DEDUCT, 0);
        z.tactic(EQMP, a);
        z.tactic(REFL, 0);
        z.tactic(ASSUME, 0);
        z.tactic(ASSUME, 0);
        check.due("close of EQMP in DEDUCT", z.close(), 4);
        check.due("EQMP", z.theorem(2, 2), EQMP);
        check.due("EQMP of", z.theorem(2, 3), 0);
        check.due("EQMP and", z.theorem(2, 4), 1);
        check.due("EQMP has the HYPOTHESIS of ASSUME", z.hypothesis(2, 0), a);
        check.due("DEDUCT of", z.theorem(4, 3), 2);
        check.due("DEDUCT and", z.theorem(4, 4), 3);
        check.due("none is left", z.theorem(4, 1), 0);
    }

    /** TRANS of ASSUME and REFL, or of REFL and ASSUME: the HYPOTHESIS comes from the first THEOREM, or from the second. */
    private static void closesHypotheses() {
        for (int first : new int[] {ASSUME, REFL}) {
            Desk x = aim(EQ, 4, 4);
            int four = Check.read(x, 4);
            check.due("EQMP of the GOAL itself", x.tactic(EQMP, 0), 2);
            check.due("DEDUCT", x.tactic(DEDUCT, 0), 3);
            check.due("TRANS", x.tactic(TRANS, four), 4);
            check.due("the first side", x.tactic(first, 0), 3);
            check.due("the second side", x.tactic(ASSUME + REFL - first, 0), 2);
            check.due("the second GOAL of DEDUCT", x.tactic(ASSUME, 0), 1);
            check.due("the second GOAL of EQMP", x.tactic(REFL, 0), 0);
            check.due("close", x.close(), 6);
            int[] rules = {first, ASSUME + REFL - first, TRANS, ASSUME, DEDUCT, REFL, EQMP};
            int[] hypotheses = {first == ASSUME ? 1 : 0, first == ASSUME ? 0 : 1, 1, 1, 0, 0, 0};
            for (int p = 0; p < 7; p++) {
                check.due("RULE of THEOREM " + p, x.theorem(p, 2), rules[p]);
                check.due("HYPOTHESES of THEOREM " + p, x.theorem(p, 1), hypotheses[p]);
            }
            check.due("that of TRANS", x.hypothesis(2, 0), 0);
        }
    }

    private static void closesExact() {
        Desk x = desk();
        int eq = Check.read(x, EQ, 4, 4);
        int p = x.rule(REFL, Check.read(x, 4), 0, 0);
        int q = x.rule(REFL, Check.read(x, 3), 0, 0);
        x.goal(eq);
        x.tactic(EXACT, p);
        check.due("close has that THEOREM", x.close(), p);
        check.due("none is made", x.count(1), 2);
        check.due("no GOALS", x.count(2), 0);
        x.goal(Check.read(x, EQ, APP, 3, 4, APP, 3, 4));
        x.tactic(COMB, 0);
        check.due("EXACT of the functions", x.tactic(EXACT, q), 1);
        check.due("EXACT of the others", x.tactic(EXACT, p), 0);
        check.due("close makes one", x.close(), 2);
        check.due("of q", x.theorem(2, 3), q);
        check.due("and p", x.theorem(2, 4), p);
        check.due("it rests on three", x.theorem(2, 5), 3);
    }

    private static void closesFull() {
        Desk x = desk();
        int t = Check.read(x, 4), eq = Check.read(x, EQ, 4, 4);
        for (int i = 0; i < 38; i++) x.rule(REFL, t, 0, 0);
        x.goal(eq);
        x.tactic(TRANS, t);
        x.repeat(8);
        check.due("41 THEOREMS", x.close(), -6);
        check.due("none is made", x.count(1), 38);
        check.due("the GOALS stay", x.count(2), 3);
        check.due("the TACTICS too", x.undo(), 1);
        check.due("EXACT needs none", x.tactic(EXACT, 0), 0);
        check.due("40 THEOREMS", x.close(), 39);
        x.goal(eq);
        x.tactic(REFL, 0);
        check.due("FULL again", x.close(), -6);
        x.undo();
        check.due("REFUSED is tested before", x.close(), -1);
        x.tactic(EXACT, 39);
        check.due("EXACT alone", x.close(), 39);
    }
}
