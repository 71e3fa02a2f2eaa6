/** Promises 9 to 11: the nine RULES, and what THEOREMS are made of. */
public final class RuleTest {
    private static final int APP = 8, EQ = 9, L = 10;
    private static final int REFL = 0, ASSUME = 1, TRANS = 2, COMB = 3, ABS = 4, BETA = 5, EQMP = 6, DEDUCT = 7, INST = 8;
    private static final Check check = new Check();

    public static void main(String[] args) {
        numbers();
        refl();
        assume();
        trans();
        comb();
        abs();
        absBig();
        beta();
        betaBig();
        eqmp();
        deduct();
        inst();
        instMerges();
        instBigAndFull();
        hypothesesBig();
        fullTheorems();
        fullTerms();
        rests();
        check.end();
    }

    /** 0, 1 of TRUTHS, 2 from TRUTHS to TRUTHS, 3 from THINGS to THINGS, the others THINGS. */
    private static Desk desk() {
        Desk x = new Desk();
        x.declare(0, 4);
        x.declare(1, 4);
        x.declare(2, 48);
        x.declare(3, 53);
        return x;
    }

    /** A TERM is the one that a draft would be read as. */
    private static void is(String what, Desk x, int t, int... draft) {
        int made = x.count(0);
        check.due(what, t, Check.read(x, draft));
        check.due(what + " is there already", x.count(0), made);
        x.clear();
    }

    private static void says(String what, Desk x, int p, int hypotheses, int... draft) {
        is(what, x, x.theorem(p, 0), draft);
        check.due(what + ": how many HYPOTHESES", x.theorem(p, 1), hypotheses);
        check.due(what + ": none behind them", x.hypothesis(p, hypotheses), -1);
    }

    private static void made(String what, Desk x, int p, int kind, int first, int second) {
        check.due(what + ": its RULE", x.theorem(p, 2), kind);
        check.due(what + ": the first of which it was made", x.theorem(p, 3), first);
        check.due(what + ": the second of which it was made", x.theorem(p, 4), second);
    }

    private static void numbers() {
        Desk x = desk();
        int t = Check.read(x, EQ, 0, 1);
        int p = x.rule(REFL, t, 0, 0);
        String before = Check.counts(x);
        check.due("kind -1", x.rule(-1, t, t, t), -1);
        check.due("kind 9", x.rule(9, t, t, t), -1);
        for (int kind : new int[] {REFL, ASSUME, BETA}) {
            check.due("a TERM that is not there", x.rule(kind, 2, 0, 0), -1);
            check.due("a TERM -1", x.rule(kind, -1, 0, 0), -1);
        }
        for (int kind : new int[] {TRANS, COMB, EQMP, DEDUCT}) {
            check.due("a first THEOREM that is not there", x.rule(kind, 1, p, 0), -1);
            check.due("a second THEOREM that is not there", x.rule(kind, p, 1, 0), -1);
            check.due("a THEOREM -1", x.rule(kind, -1, p, 0), -1);
            check.due("a second THEOREM -1", x.rule(kind, p, -1, 0), -1);
        }
        check.due("ABS of no THEOREM", x.rule(ABS, 1, 0, 0), -1);
        check.due("ABS of no NAME", x.rule(ABS, p, 8, 0), -1);
        check.due("ABS of NAME -1", x.rule(ABS, p, -1, 0), -1);
        check.due("INST of no THEOREM", x.rule(INST, 1, 0, t), -1);
        check.due("INST of no NAME", x.rule(INST, p, 8, t), -1);
        check.due("INST of NAME -1", x.rule(INST, p, -1, t), -1);
        check.due("INST of no TERM", x.rule(INST, p, 0, 2), -1);
        check.due("INST of TERM -1", x.rule(INST, p, 0, -1), -1);
        check.same("nothing has changed", Check.counts(x), before);
        check.due("what REFL does not have", x.rule(REFL, t, -9, 99), 1);
        check.due("what TRANS does not have", x.rule(TRANS, p, p, -9), 2);
        check.due("what ABS does not have", x.rule(ABS, p, 7, -9), 3);
        check.due("theorem(4, 0)", x.theorem(4, 0), -1);
        check.due("theorem(-1, 0)", x.theorem(-1, 0), -1);
        check.due("theorem(0, 6)", x.theorem(0, 6), -1);
        check.due("theorem(0, -1)", x.theorem(0, -1), -1);
        check.due("hypothesis(4, 0)", x.hypothesis(4, 0), -1);
        check.due("hypothesis(-1, 0)", x.hypothesis(-1, 0), -1);
        check.due("hypothesis(0, 0)", x.hypothesis(0, 0), -1);
        check.due("hypothesis(0, -1)", x.hypothesis(0, -1), -1);
    }

    private static void refl() {
        Desk x = desk();
        int p = x.rule(REFL, Check.read(x, APP, 3, 4), 0, 0);
        check.due("the TERM is new", x.count(0), 2);
        says("REFL", x, p, 0, EQ, APP, 3, 4, APP, 3, 4);
        made("REFL", x, p, REFL, -1, -1);
        check.due("REFL again is another THEOREM", x.rule(REFL, 0, 0, 0), 1);
        check.due("of the same TERM", x.theorem(1, 0), x.theorem(0, 0));
        int eleven = Check.read(x, APP, 3, APP, 3, APP, 3, APP, 3, APP, 3, 4);
        check.due("a TERM of 23", x.term(x.theorem(x.rule(REFL, eleven, 0, 0), 0), 0), 23);
        int twelve = Check.read(x, L, APP, 3, APP, 3, APP, 3, APP, 3, APP, 3, 4);
        String before = Check.counts(x);
        check.due("a TERM of 25", x.rule(REFL, twelve, 0, 0), -5);
        check.same("nothing has changed", Check.counts(x), before);
    }

    private static void assume() {
        Desk x = desk();
        int t = Check.read(x, 0);
        int p = x.rule(ASSUME, t, 0, 0);
        says("ASSUME", x, p, 1, 0);
        check.due("its HYPOTHESIS", x.hypothesis(p, 0), t);
        made("ASSUME", x, p, ASSUME, -1, -1);
        check.due("of THINGS", x.rule(ASSUME, Check.read(x, 4), 0, 0), -4);
        check.due("of FUNCTIONS", x.rule(ASSUME, Check.read(x, 2), 0, 0), -4);
    }

    private static void trans() {
        Desk x = desk();
        int ab = Check.read(x, EQ, 4, 5), bc = Check.read(x, EQ, 5, 6);
        int p = x.rule(ASSUME, ab, 0, 0), q = x.rule(ASSUME, bc, 0, 0);
        int pq = x.rule(TRANS, p, q, 0);
        check.due("TRANS", pq, 2);
        says("TRANS", x, pq, 2, EQ, 4, 6);
        check.due("first those of p", x.hypothesis(pq, 0), ab);
        check.due("then those of q", x.hypothesis(pq, 1), bc);
        made("TRANS", x, pq, TRANS, p, q);
        check.due("the other way", x.rule(TRANS, q, p, 0), -4);
        int truth = x.rule(ASSUME, Check.read(x, 0), 0, 0);
        check.due("p is no EQ", x.rule(TRANS, truth, p, 0), -4);
        check.due("q is no EQ", x.rule(TRANS, p, truth, 0), -4);
        int cb = x.rule(ASSUME, Check.read(x, EQ, 6, 5), 0, 0);
        int back = x.rule(TRANS, pq, cb, 0);
        says("back", x, back, 3, EQ, 4, 5);
        int again = x.rule(TRANS, back, q, 0);
        says("none twice", x, again, 3, EQ, 4, 6);
        check.due("their order stays", x.hypothesis(again, 1), bc);
    }

    private static void comb() {
        Desk x = desk();
        int f = x.rule(REFL, Check.read(x, 3), 0, 0);
        int a = x.rule(ASSUME, Check.read(x, EQ, 4, 5), 0, 0);
        int p = x.rule(COMB, f, a, 0);
        says("COMB", x, p, 1, EQ, APP, 3, 4, APP, 3, 5);
        made("COMB", x, p, COMB, f, a);
        check.due("the TYPE of APP", x.symbol(x.theorem(p, 0), 1, 1), 5);
        check.due("the other way", x.rule(COMB, a, f, 0), -4);
        int truths = x.rule(COMB, x.rule(REFL, Check.read(x, L + 7, EQ, 7, 4), 0, 0), a, 0);
        says("COMB of LAMs", x, truths, 1, EQ, APP, L + 7, EQ, 7, 4, 4, APP, L + 7, EQ, 7, 4, 5);
        check.due("APP has the TYPE to which the LAM goes", x.symbol(x.theorem(truths, 0), 1, 1), 4);
        check.due("used on another TYPE", x.rule(COMB, x.rule(REFL, Check.read(x, 2), 0, 0), a, 0), -4);
        int truth = x.rule(ASSUME, Check.read(x, 0), 0, 0);
        check.due("p is no EQ", x.rule(COMB, truth, a, 0), -4);
        check.due("q is no EQ", x.rule(COMB, f, truth, 0), -4);
        int l = x.rule(ASSUME, Check.read(x, EQ, 3, L, 4), 0, 0);
        int both = x.rule(COMB, l, a, 0);
        says("both sides differ", x, both, 2, EQ, APP, 3, 4, APP, L, 4, 5);
        int nine = x.rule(REFL, Check.read(x, APP, 3, APP, 3, APP, 3, APP, 3, 4), 0, 0);
        check.due("23 SYMBOLS", x.term(x.theorem(x.rule(COMB, f, nine, 0), 0), 0), 23);
        int ten = x.rule(REFL, Check.read(x, APP, 3, APP, 3, APP, 3, APP, L, 4, 4), 0, 0);
        String before = Check.counts(x);
        check.due("25 SYMBOLS", x.rule(COMB, f, ten, 0), -5);
        check.same("nothing has changed", Check.counts(x), before);
        int odd = x.rule(ASSUME, Check.read(x, EQ, APP, 3, APP, 3, APP, 3, APP, 3, 4, APP, 3, APP, 3, APP, 3, APP, L, 4, 4), 0, 0);
        check.due("24 SYMBOLS", x.term(x.theorem(x.rule(COMB, f, odd, 0), 0), 0), 24);
    }

    private static void abs() {
        Desk x = desk();
        int p = x.rule(REFL, Check.read(x, L + 7, EQ, APP, 3, 4, 7), 0, 0);
        int q = x.rule(ABS, p, 4, 0);
        says("ABS", x, q, 0, EQ, L + 4, L + 7, EQ, APP, 3, 4, 7, L + 4, L + 7, EQ, APP, 3, 4, 7);
        made("ABS", x, q, ABS, p, -1);
        check.due("a NAME that is not in it", x.rule(ABS, p, 6, 0) >= 0 ? 1 : 0, 1);
        int a = x.rule(ASSUME, Check.read(x, EQ, 4, 5), 0, 0);
        check.due("a NAME in a HYPOTHESIS", x.rule(ABS, a, 5, 0), -4);
        int free = x.rule(ABS, a, 6, 0);
        says("a NAME in none", x, free, 1, EQ, L, 4, L, 5);
        check.due("of TRUTHS for the variable", x.rule(ABS, a, 0, 0), free + 1);
        check.due("its TYPE", x.symbol(x.theorem(free + 1, 0), 1, 1), 0b1_1_00_01);
        check.due("no EQ", x.rule(ABS, x.rule(ASSUME, Check.read(x, 0), 0, 0), 7, 0), -4);
    }

    private static void absBig() {
        Desk x = new Desk();
        int four = 0b1_1_10101_10101, eight = x.function(four, four);
        x.declare(0, eight);
        x.declare(1, four);
        x.declare(2, four);
        x.declare(3, 53);
        int long1 = x.rule(REFL, Check.read(x, 0), 0, 0);
        String before = Check.counts(x);
        check.due("a TYPE of 26 digits", x.rule(ABS, long1, 5, 0), -5);
        check.same("nothing has changed", Check.counts(x), before);
        check.due("a TYPE of 23 digits", x.rule(ABS, x.rule(REFL, Check.read(x, 1), 0, 0), 2, 0), 2);
        int b = x.rule(ASSUME, Check.read(x, EQ, APP, 3, 4, 5), 0, 0);
        check.due("UNFIT before BIG", x.rule(ABS, b, 4, 0), -4);
        int p = x.rule(REFL, Check.read(x, APP, 3, APP, 3, APP, 3, APP, 3, APP, 3, 4), 0, 0);
        check.due("25 SYMBOLS", x.rule(ABS, p, 4, 0), -5);
        int odd = x.rule(ASSUME, Check.read(x, EQ, APP, 3, APP, 3, APP, 3, APP, 3, APP, 3, 4,
            APP, 3, APP, 3, APP, 3, APP, L, 4, 4), 0, 0);
        check.due("24 SYMBOLS", x.term(x.theorem(x.rule(ABS, odd, 5, 0), 0), 0), 24);
    }

    private static void beta() {
        Desk x = desk();
        int t = Check.read(x, APP, L + 4, EQ, APP, 3, 4, 4, APP, 3, 5);
        int p = x.rule(BETA, t, 0, 0);
        says("BETA", x, p, 0, EQ, APP, L + 4, EQ, APP, 3, 4, 4, APP, 3, 5, EQ, APP, 3, APP, 3, 5, APP, 3, 5);
        made("BETA", x, p, BETA, -1, -1);
        int inner = Check.read(x, APP, L + 4, L + 5, EQ, 4, 5, 6);
        says("under a LAM", x, x.rule(BETA, inner, 0, 0), 0, EQ, APP, L + 4, L + 5, EQ, 4, 5, 6, L + 5, EQ, 6, 5);
        int shadow = Check.read(x, APP, L + 4, APP, L + 4, APP, 3, 4, 4, 6);
        says("inner variables stay", x, x.rule(BETA, shadow, 0, 0), 0,
            EQ, APP, L + 4, APP, L + 4, APP, 3, 4, 4, 6, APP, L + 4, APP, 3, 4, 6);
        int lambda = Check.read(x, APP, L + 4, L + 5, APP, 4, 5, L + 6, APP, 3, 6);
        says("LAM for a variable under LAM", x, x.rule(BETA, lambda, 0, 0), 0,
            EQ, APP, L + 4, L + 5, APP, 4, 5, L + 6, APP, 3, 6, L + 5, APP, L + 6, APP, 3, 6, 5);
        int none = Check.read(x, APP, L + 4, 5, 6);
        says("not in its body", x, x.rule(BETA, none, 0, 0), 0, EQ, APP, L + 4, 5, 6, 5);
        check.due("a NAME", x.rule(BETA, Check.read(x, 4), 0, 0), -4);
        check.due("a LAM", x.rule(BETA, Check.read(x, L + 4, 4), 0, 0), -4);
        check.due("APP of a NAME", x.rule(BETA, Check.read(x, APP, 3, APP, L + 4, 4, 5), 0, 0), -4);
        check.due("APP of APP", x.rule(BETA, Check.read(x, APP, APP, L + 4, 4, 3, 5), 0, 0), -4);
        check.due("EQ", x.rule(BETA, Check.read(x, EQ, L + 4, 4, 3), 0, 0), -4);
    }

    private static void betaBig() {
        Desk x = desk();
        // 8 + 5 SYMBOLS to 11: 24 in all with EQ; one more is too many.
        int fits = Check.read(x, APP, L + 4, EQ, 4, APP, 3, 4, APP, 3, APP, 3, 5);
        check.due("12 and 11 SYMBOLS", x.term(fits, 0), 12);
        // EQ, APP 3 APP 3 5 (5), APP 3 of it (7): 13, so 1 + 12 + 13 is 26.
        String before = Check.counts(x);
        check.due("26 SYMBOLS", x.rule(BETA, fits, 0, 0), -5);
        check.same("nothing has changed", Check.counts(x), before);
        int less = Check.read(x, APP, L + 4, EQ, 4, APP, 3, 4, L, APP, 3, 5);
        check.due("a LAM for it has no TYPE", less, -3);
        int exact = Check.read(x, APP, L + 4, L, EQ, 4, APP, 3, 4, APP, 3, 5);
        // 11, and LAM EQ (3) (5) is 10: 22.
        check.due("22 SYMBOLS", x.term(x.theorem(x.rule(BETA, exact, 0, 0), 0), 0), 22);
        int full = Check.read(x, APP, L + 4, L, L, EQ, 4, APP, 3, 4, APP, 3, 5);
        check.due("24 SYMBOLS", x.term(x.theorem(x.rule(BETA, full, 0, 0), 0), 0), 24);
        int over = Check.read(x, APP, L + 4, L, L, L, EQ, 4, APP, 3, 4, APP, 3, 5);
        check.due("26 SYMBOLS again", x.rule(BETA, over, 0, 0), -5);
    }

    private static void eqmp() {
        Desk x = desk();
        int eq = Check.read(x, EQ, 0, APP, 2, 1), a = Check.read(x, 0);
        int p = x.rule(ASSUME, eq, 0, 0), q = x.rule(ASSUME, a, 0, 0);
        int r = x.rule(EQMP, p, q, 0);
        says("EQMP", x, r, 2, APP, 2, 1);
        check.due("first those of p", x.hypothesis(r, 0), eq);
        check.due("then those of q", x.hypothesis(r, 1), a);
        made("EQMP", x, r, EQMP, p, q);
        check.due("the other way", x.rule(EQMP, q, p, 0), -4);
        check.due("q is the other side", x.rule(EQMP, p, x.rule(ASSUME, Check.read(x, APP, 2, 1), 0, 0), 0), -4);
        check.due("p is not of TRUTHS", x.rule(EQMP, x.rule(REFL, Check.read(x, 4), 0, 0), q, 0), -4);
    }

    private static void deduct() {
        Desk x = desk();
        int a = Check.read(x, 0), b = Check.read(x, 1);
        int p = x.rule(ASSUME, a, 0, 0), q = x.rule(ASSUME, b, 0, 0);
        int r = x.rule(DEDUCT, p, q, 0);
        says("DEDUCT", x, r, 2, EQ, 0, 1);
        check.due("first those of p", x.hypothesis(r, 0), a);
        check.due("then those of q", x.hypothesis(r, 1), b);
        made("DEDUCT", x, r, DEDUCT, p, q);
        int same = x.rule(DEDUCT, p, p, 0);
        says("of one THEOREM", x, same, 0, EQ, 0, 0);
        int eq = Check.read(x, EQ, 0, 1);
        int toB = x.rule(EQMP, x.rule(ASSUME, eq, 0, 0), p, 0);
        says("EQ 0 1 and 0 make 1", x, toB, 2, 1);
        int s = x.rule(DEDUCT, toB, p, 0);
        says("0 is taken away, 0 of the other stays", x, s, 2, EQ, 1, 0);
        check.due("EQ 0 1 is first", x.hypothesis(s, 0), eq);
        check.due("0 is behind it", x.hypothesis(s, 1), a);
        int u = x.rule(DEDUCT, toB, q, 0);
        says("1 is taken from the second", x, u, 2, EQ, 1, 1);
        int w = x.rule(DEDUCT, q, toB, 0);
        says("1 is taken from the first", x, w, 2, EQ, 1, 1);
        check.due("then EQ 0 1", x.hypothesis(w, 0), eq);
        check.due("UNFIT never, BIG", x.rule(DEDUCT,
            x.rule(ASSUME, Check.read(x, EQ, 4, APP, 3, APP, 3, APP, 3, APP, 3, 4), 0, 0),
            x.rule(ASSUME, Check.read(x, EQ, APP, 3, 5, APP, 3, APP, 3, APP, 3, 4), 0, 0), 0) >= 0 ? 1 : 0, 1);
        int eleven = x.rule(ASSUME, Check.read(x, EQ, 4, APP, 3, APP, 3, APP, 3, APP, 3, 4), 0, 0);
        int thirteen = x.rule(ASSUME, Check.read(x, EQ, APP, 3, 4, APP, 3, APP, 3, APP, 3, APP, 3, 4), 0, 0);
        check.due("25 SYMBOLS", x.rule(DEDUCT, eleven, thirteen, 0), -5);
    }

    private static void inst() {
        Desk x = desk();
        int a = Check.read(x, EQ, APP, 3, 4, 5), t = Check.read(x, APP, 3, 6);
        int p = x.rule(ASSUME, a, 0, 0);
        int made = x.count(0);
        int r = x.rule(INST, p, 4, t);
        check.due("one new TERM, as HYPOTHESIS and CONCLUSION", x.count(0), made + 1);
        says("INST", x, r, 1, EQ, APP, 3, APP, 3, 6, 5);
        check.due("its HYPOTHESIS", x.hypothesis(r, 0), made);
        made("INST", x, r, INST, p, -1);
        int same = x.rule(INST, p, 7, t);
        says("a NAME that is not in it", x, same, 1, EQ, APP, 3, 4, 5);
        check.due("another TYPE", x.rule(INST, p, 0, t), -4);
        check.due("the TYPE of the NAME", x.rule(INST, p, 4, Check.read(x, 0)), -4);
        int q = x.rule(ABS, x.rule(REFL, Check.read(x, EQ, 4, 5), 0, 0), 5, 0);
        says("under a LAM", x, x.rule(INST, q, 4, t), 0, EQ, L + 5, EQ, APP, 3, 6, 5, L + 5, EQ, APP, 3, 6, 5);
        int lambda = Check.read(x, L + 7, APP, 3, 7);
        int f = x.rule(REFL, Check.read(x, L + 5, APP, 3, 5), 0, 0);
        says("a LAM under a LAM", x, x.rule(INST, f, 3, lambda), 0,
            EQ, L + 5, APP, L + 7, APP, 3, 7, 5, L + 5, APP, L + 7, APP, 3, 7, 5);
        int self = x.rule(INST, p, 4, Check.read(x, APP, 3, 4));
        says("the NAME in what it becomes", x, self, 1, EQ, APP, 3, APP, 3, 4, 5);
    }

    private static void instMerges() {
        Desk x = desk();
        int ab = Check.read(x, EQ, 4, 5), bc = Check.read(x, EQ, 5, 6), ca = Check.read(x, EQ, 6, 5);
        int p = x.rule(TRANS, x.rule(TRANS, x.rule(ASSUME, ab, 0, 0), x.rule(ASSUME, bc, 0, 0), 0), x.rule(ASSUME, ca, 0, 0), 0);
        check.due("three HYPOTHESES", x.theorem(p, 1), 3);
        int made = x.count(0);
        int r = x.rule(INST, p, 6, Check.read(x, 4));
        // 4 is TERM made; then EQ 4 5 is there, EQ 5 4 is new, EQ 4 5 is there; the CONCLUSION is EQ 4 5.
        says("two become one", x, r, 2, EQ, 4, 5);
        check.due("at the place of the first", x.hypothesis(r, 0), ab);
        check.due("the other behind it", x.hypothesis(r, 1), made + 1);
        is("which is EQ 5 4", x, made + 1, EQ, 5, 4);
        Desk y = desk();
        int q = y.rule(TRANS, y.rule(ASSUME, Check.read(y, EQ, 4, 5), 0, 0), y.rule(ASSUME, Check.read(y, EQ, 5, 6), 0, 0), 0);
        int seven = Check.read(y, 7);
        int s = y.rule(INST, q, 5, seven);
        is("EQ 4 6 was the CONCLUSION", y, 2, EQ, 4, 6);
        check.due("the first HYPOTHESIS comes first", y.hypothesis(s, 0), 4);
        check.due("then the second", y.hypothesis(s, 1), 5);
        check.due("the CONCLUSION stays", y.theorem(s, 0), 2);
        int u = y.rule(INST, q, 4, Check.read(y, APP, 3, 7));
        check.due("HYPOTHESES before the CONCLUSION", y.hypothesis(u, 0), 7);
        check.due("then the CONCLUSION", y.theorem(u, 0), 8);
    }

    private static void instBigAndFull() {
        Desk x = desk();
        int p = x.rule(ASSUME, Check.read(x, EQ, APP, 3, 4, APP, 3, 4), 0, 0);
        int ten = Check.read(x, APP, L, APP, 3, APP, 3, 0, APP, 3, APP, 3, 4);
        check.due("a TERM of 12", x.term(ten, 0), 12);
        String before = Check.counts(x);
        check.due("29 SYMBOLS", x.rule(INST, p, 4, ten), -5);
        check.same("nothing has changed", Check.counts(x), before);
        int q = x.rule(TRANS, p, x.rule(ASSUME, Check.read(x, EQ, APP, 3, 4, 5), 0, 0), 0);
        check.due("a HYPOTHESIS is too long, the CONCLUSION not", x.rule(INST, q, 4, ten), -5);
        int r = x.rule(EQMP, x.rule(ASSUME, Check.read(x, EQ, EQ, APP, 3, 4, 5, 0), 0, 0), q, 0);
        check.due("the CONCLUSION is without the NAME", x.theorem(r, 0), Check.read(x, 0));
        check.due("a HYPOTHESIS is too long again", x.rule(INST, r, 4, ten), -5);
        check.due("INST made nothing", x.count(1), 5);
    }

    private static void hypothesesBig() {
        Desk x = new Desk();
        int[] way = {4, 5, 6, 7, 4, 6, 5};
        int p = x.rule(ASSUME, Check.read(x, EQ, 4, 5), 0, 0);
        for (int i = 1; i < 6; i++) {
            p = x.rule(TRANS, p, x.rule(ASSUME, Check.read(x, EQ, way[i], way[i + 1]), 0, 0), 0);
            check.due("so many HYPOTHESES", x.theorem(p, 1), i + 1);
        }
        int more = x.rule(ASSUME, Check.read(x, EQ, 5, 7), 0, 0);
        int truth = x.rule(ASSUME, Check.read(x, EQ, EQ, 4, 5, EQ, 6, 6), 0, 0);
        int function = x.rule(ASSUME, Check.read(x, EQ, L + 4, 4, L + 4, 5), 0, 0);
        String before = Check.counts(x);
        check.due("seven HYPOTHESES", x.rule(TRANS, p, more, 0), -5);
        check.due("seven HYPOTHESES of DEDUCT", x.rule(DEDUCT, p, more, 0), -5);
        check.due("seven HYPOTHESES of EQMP", x.rule(EQMP, truth, p, 0), -5);
        check.due("seven HYPOTHESES of COMB", x.rule(COMB, function, p, 0), -5);
        check.same("nothing has changed", Check.counts(x), before);
        int old = x.rule(ASSUME, Check.read(x, EQ, 5, 6), 0, 0);
        check.due("one of the six", x.theorem(x.rule(TRANS, p, old, 0), 1), 6);
    }

    private static void fullTheorems() {
        Desk x = desk();
        int t = Check.read(x, EQ, 4, 4);
        for (int i = 0; i < 40; i++) check.due("THEOREM " + i, x.rule(ASSUME, t, 0, 0), i);
        String before = Check.counts(x);
        check.due("THEOREM 40", x.rule(ASSUME, t, 0, 0), -6);
        check.due("with a new TERM", x.rule(REFL, t, 0, 0), -6);
        check.due("UNFIT is tested before", x.rule(BETA, t, 0, 0), -4);
        check.due("and REFUSED", x.rule(BETA, 1, 0, 0), -1);
        check.same("nothing has changed", Check.counts(x), before);
        check.due("theorem(39, 5)", x.theorem(39, 5), 1);
        check.due("theorem(40, 0)", x.theorem(40, 0), -1);
    }

    private static void fullTerms() {
        Desk x = new Desk();
        x.declare(0, 53);
        for (int i = 0; i < 49; i++) Check.read(x, EQ, 1 + i / 7, 1 + i % 7);
        for (int v = 0; v < 8; v++) Check.read(x, v);
        int[] tower = {APP, 0, APP, 0, APP, 0, APP, 0, APP, 0, 1};
        for (int n = 9; n > 3; n -= 2) Check.read(x, java.util.Arrays.copyOfRange(tower, n - 1, 11));
        Check.read(x, APP, 0, APP, 0, APP, 0, APP, 0, APP, 0, APP, 0, 1);
        Check.read(x, APP, 0, 2);
        check.due("so many TERMS", x.count(0), 62);
        int q = x.rule(TRANS, x.rule(ASSUME, 1, 0, 0), x.rule(ASSUME, 9, 0, 0), 0);
        check.due("EQ 1 2, EQ 2 3: EQ 1 3", x.theorem(q, 0), 2);
        int tall = Check.read(x, APP, 0, 1);
        check.due("APP 0 1 was there", x.count(0), 62);
        check.due("a HYPOTHESIS and the CONCLUSION are new", x.rule(INST, q, 1, tall), 3);
        check.same("EQ 2 3 stays, so two are new", Check.counts(x), "64 4 0 0 0");
        check.due("one more", x.rule(REFL, tall, 0, 0), -6);
        check.due("none new", x.rule(REFL, 49 + 1, 0, 0), 4);
        check.due("BIG is tested before FULL", x.rule(INST, 4, 1, 60), -5);
        check.due("two more", x.rule(INST, q, 2, tall), -6);
        check.due("still 64", x.count(0), 64);
    }

    private static void rests() {
        Desk x = desk();
        int a = x.rule(REFL, Check.read(x, 4), 0, 0);
        int b = x.rule(TRANS, a, a, 0);
        int c = x.rule(TRANS, b, b, 0);
        int d = x.rule(TRANS, a, c, 0);
        int e = x.rule(ABS, d, 5, 0);
        int f = x.rule(REFL, Check.read(x, 3), 0, 0);
        int g = x.rule(COMB, f, d, 0);
        int[] all = {a, b, c, d, e, f, g};
        int[] due = {1, 2, 3, 4, 5, 1, 6};
        for (int i = 0; i < all.length; i++) check.due("THEOREM " + i + " rests on", x.theorem(all[i], 5), due[i]);
    }
}
