/** The edges of promises 9 to 11, sentence by sentence. */
public final class RuleEdgeTest extends Edges {
    /** A RULE with all that it needs, on a desk with a run behind it: it makes one TERM that is new. */
    private record Case(String name, Run before, int kind, int a, int b, int c) {
        Call call() {
            return rule(kind, a, b, c);
        }
    }

    public static void main(String[] args) {
        ruleRefusesKinds();
        ruleRefusesTerms();
        ruleRefusesTheorems();
        ruleRefusesNames();
        ruleLooksAtNoMore();
        assumeUnfit();
        transUnfit();
        combUnfit();
        absUnfit();
        betaUnfit();
        eqmpUnfit();
        instUnfit();
        symbolsBig();
        instBig();
        digitsBig();
        hypothesesBig();
        hypothesesOnce();
        termsFull();
        manyTermsFull();
        theoremsFull();
        testsInOrder();
        theoremRefuses();
        theoremAtItsEdges();
        hypothesisRefuses();
        end();
    }

    /** REFL of TERMS that drafts are read as, in their order: THEOREM k is of draft k. */
    private static Run refls(int[]... drafts) {
        return x -> {
            names(x);
            for (int[] draft : drafts) x.rule(REFL, read(x, draft), 0, 0);
        };
    }

    /** ASSUME of TERMS that drafts are read as, in their order: THEOREM k is of draft k. */
    private static Run assumes(int[]... drafts) {
        return x -> {
            names(x);
            for (int[] draft : drafts) x.rule(ASSUME, read(x, draft), 0, 0);
        };
    }

    // REFUSED if kind is none, or one of these is not there

    private static void ruleRefusesKinds() {
        Run before = refls(row(0));
        for (int kind : new int[] {-1, 9, 10, 18, LEAST, MOST}) {
            refuses("rule: REFUSED if kind is " + kind, before, rule(kind, 0, 0, 0), REFUSED);
        }
        takes("rule: kind 0 is one", before, rule(REFL, 0, 0, 0), 1);
        takes("rule: kind 8 is one", before, rule(INST, 0, 0, 0), 1);
    }

    private static void ruleRefusesTerms() {
        Run truths = after(Edges::names, reads(row(0), row(1)));
        Run redexes = after(Edges::names, reads(row(APP, L, 0, 4), row(APP, L, 0, 5)));
        for (int kind : new int[] {REFL, ASSUME, BETA}) {
            Run before = kind == BETA ? redexes : truths;
            takes("rule: the first TERM for " + kind, before, rule(kind, 0, -1, -1), 0);
            takes("rule: the last TERM for " + kind, before, rule(kind, 1, -1, -1), 0);
            for (int t : new int[] {-1, 2, 3, 63, 64, 72, LEAST, MOST}) {
                refuses("rule: REFUSED if TERM " + t + " is not there for " + kind, before, rule(kind, t, 0, 0), REFUSED);
            }
        }
        Run one = refls(row(0));
        takes("rule: the first TERM for INST", one, rule(INST, 0, 0, 0), 1);
        takes("rule: the last TERM for INST", one, rule(INST, 0, 0, 1), 1);
        for (int t : new int[] {-1, 2, 3, 64, LEAST, MOST}) {
            refuses("rule: REFUSED if TERM " + t + " is not there for INST", one, rule(INST, 0, 0, t), REFUSED);
        }
    }

    private static void ruleRefusesTheorems() {
        int[][] firsts = new int[9][], seconds = new int[9][];
        firsts[TRANS] = firsts[DEDUCT] = firsts[ABS] = firsts[INST] = row(0);
        firsts[COMB] = row(3);
        firsts[EQMP] = row(EQ, 0, 0);
        seconds[TRANS] = seconds[DEDUCT] = seconds[EQMP] = seconds[ABS] = seconds[INST] = row(0);
        seconds[COMB] = row(4);
        for (int kind : new int[] {TRANS, COMB, EQMP, DEDUCT}) {
            Run before = refls(firsts[kind], seconds[kind]), turned = refls(seconds[kind], firsts[kind]);
            takes("rule: the first THEOREM and the last for " + kind, before, rule(kind, 0, 1, -1), 2);
            takes("rule: the last THEOREM and the first for " + kind, turned, rule(kind, 1, 0, -1), 2);
            for (int p : new int[] {-1, 2, 3, 39, 40, 41, LEAST, MOST}) {
                refuses("rule: REFUSED if THEOREM " + p + " is not there for " + kind, before, rule(kind, p, 1, 0), REFUSED);
                refuses("rule: REFUSED if the second, " + p + ", is not there for " + kind, before, rule(kind, 0, p, 0), REFUSED);
                refuses("rule: REFUSED if both, " + p + ", are not there for " + kind, before, rule(kind, p, p, 0), REFUSED);
            }
        }
        for (int kind : new int[] {ABS, INST}) {
            Run before = refls(firsts[kind], seconds[kind]);
            takes("rule: the first THEOREM for " + kind, before, rule(kind, 0, 0, 0), 2);
            takes("rule: the last THEOREM for " + kind, before, rule(kind, 1, 0, 0), 2);
            for (int p : new int[] {-1, 2, 3, 40, LEAST, MOST}) {
                refuses("rule: REFUSED if THEOREM " + p + " is not there for " + kind, before, rule(kind, p, 0, 0), REFUSED);
            }
        }
    }

    private static void ruleRefusesNames() {
        Run before = x -> {
            for (int v = 0; v < 8; v++) x.declare(v, 4);
            x.rule(REFL, read(x, 3), 0, 0);
        };
        for (int v = 0; v < 8; v++) {
            takes("rule: NAME " + v + " for ABS", before, rule(ABS, 0, v, -1), 1);
            takes("rule: NAME " + v + " for INST", before, rule(INST, 0, v, 0), 1);
        }
        for (int v : new int[] {-1, 8, 9, LEAST, MOST}) {
            refuses("rule: REFUSED if NAME " + v + " is not there for ABS", before, rule(ABS, 0, v, 0), REFUSED);
            refuses("rule: REFUSED if NAME " + v + " is not there for INST", before, rule(INST, 0, v, 0), REFUSED);
        }
    }

    /** What a RULE does not have is not looked at. */
    private static void ruleLooksAtNoMore() {
        for (Case one : cases()) {
            boolean three = one.kind == INST, single = one.kind == REFL || one.kind == ASSUME || one.kind == BETA;
            int made = theoremsOf(one.before);
            for (int wild : new int[] {LEAST, -1, 99, MOST}) {
                int b = single ? wild : one.b, c = three ? one.c : wild;
                takes("rule: " + one.name + " does not look at " + wild, one.before, rule(one.kind, one.a, b, c), made);
            }
        }
    }

    private static int theoremsOf(Run run) {
        Desk x = new Desk();
        run.on(x);
        return x.count(1);
    }

    private static Case[] cases() {
        return new Case[] {
            new Case("REFL", after(Edges::names, reads(row(APP, 3, 4))), REFL, 0, 0, 0),
            new Case("TRANS", assumes(row(EQ, APP, 3, 4, 5), row(EQ, 5, APP, 3, 6)), TRANS, 0, 1, 0),
            new Case("COMB", refls(row(3), row(4)), COMB, 0, 1, 0),
            new Case("ABS", refls(row(4)), ABS, 0, 4, 0),
            new Case("BETA", after(Edges::names, reads(row(APP, L, 0, 4))), BETA, 0, 0, 0),
            new Case("EQMP", assumes(row(EQ, 0, APP, 2, 1), row(0)), EQMP, 0, 1, 0),
            new Case("DEDUCT", assumes(row(0), row(1)), DEDUCT, 0, 1, 0),
            new Case("INST", after(assumes(row(EQ, 4, 5)), reads(row(APP, 3, 4))), INST, 0, 4, 1),
        };
    }

    // UNFIT if they are not as said

    private static void assumeUnfit() {
        Run before = after(Edges::names, reads(row(0), row(4), row(2), row(APP, 3, 4), row(L, 0), row(APP, 2, 0), row(EQ, 4, 5)));
        for (int t : new int[] {0, 5, 6}) takes("rule: ASSUME of TRUTHS, TERM " + t, before, rule(ASSUME, t, 0, 0), 0);
        for (int t : new int[] {1, 2, 3, 4}) refuses("rule: ASSUME UNFIT, TERM " + t, before, rule(ASSUME, t, 0, 0), UNFIT);
    }

    /** EQ of LAM 0 0 and itself: on TRUTHS, as the TACTIC COMB leaves it, in THEOREM 0, on THINGS in THEOREM 1. */
    private static Run otherTypes() {
        return x -> {
            names(x);
            x.goal(read(x, EQ, APP, L, 0, 0, APP, L, 0, 0));
            x.tactic(COMB, 0);
            x.rule(ASSUME, x.open(0, 0), 0, 0);
            x.rule(ASSUME, read(x, EQ, L, 0, L, 0), 0, 0);
        };
    }

    private static void transUnfit() {
        Run before = assumes(row(EQ, 4, 5), row(EQ, 5, 6), row(EQ, 4, 6), row(0), row(APP, 2, 0), row(EQ, 5, APP, 3, 6), row(EQ, APP, 3, 5, 6));
        takes("rule: TRANS", before, rule(TRANS, 0, 1, 0), 7);
        refuses("rule: TRANS UNFIT, the other way", before, rule(TRANS, 1, 0, 0), UNFIT);
        refuses("rule: TRANS UNFIT, the left sides are ALIKE", before, rule(TRANS, 0, 2, 0), UNFIT);
        refuses("rule: TRANS UNFIT, the right sides are ALIKE", before, rule(TRANS, 1, 2, 0), UNFIT);
        refuses("rule: TRANS UNFIT, a side begins like the other", before, rule(TRANS, 5, 1, 0), UNFIT);
        refuses("rule: TRANS UNFIT, a side ends like the other", before, rule(TRANS, 0, 6, 0), UNFIT);
        for (int p : new int[] {3, 4}) {
            refuses("rule: TRANS UNFIT, the first is no EQ", before, rule(TRANS, p, 1, 0), UNFIT);
            refuses("rule: TRANS UNFIT, the second is no EQ", before, rule(TRANS, 0, p, 0), UNFIT);
            refuses("rule: TRANS UNFIT, both are no EQ", before, rule(TRANS, p, p, 0), UNFIT);
        }
        Run likeEq = assumes(row(APP, 2, 0), row(EQ, 0, 1), row(EQ, 2, 2));
        refuses("rule: TRANS UNFIT, the first is APP with that PART", likeEq, rule(TRANS, 0, 1, 0), UNFIT);
        refuses("rule: TRANS UNFIT, the second is APP with that PART", likeEq, rule(TRANS, 2, 0, 0), UNFIT);
        refuses("rule: TRANS UNFIT, ALIKE but for TYPES", otherTypes(), rule(TRANS, 0, 1, 0), UNFIT);
        takes("rule: TRANS of these TYPES", otherTypes(), rule(TRANS, 0, 0, 0), 2);
    }

    private static void combUnfit() {
        Run before = assumes(row(EQ, 3, 3), row(EQ, 4, 5), row(EQ, 2, 2), row(EQ, 0, 1), row(0), row(EQ, L, 3, L, 3),
            row(EQ, L + 7, APP, 7, 4, L + 7, 5));
        takes("rule: COMB on THINGS", before, rule(COMB, 0, 1, 0), 7);
        takes("rule: COMB on TRUTHS", before, rule(COMB, 2, 3, 0), 7);
        takes("rule: COMB to FUNCTIONS", before, rule(COMB, 5, 1, 0), 7);
        takes("rule: COMB on FUNCTIONS", before, rule(COMB, 6, 0, 0), 7);
        refuses("rule: COMB UNFIT, on TRUTHS, not THINGS", before, rule(COMB, 0, 3, 0), UNFIT);
        refuses("rule: COMB UNFIT, on THINGS, not TRUTHS", before, rule(COMB, 2, 1, 0), UNFIT);
        refuses("rule: COMB UNFIT, on what it goes to", before, rule(COMB, 5, 0, 0), UNFIT);
        refuses("rule: COMB UNFIT, on other FUNCTIONS", before, rule(COMB, 6, 2, 0), UNFIT);
        refuses("rule: COMB UNFIT, THINGS are no FUNCTIONS", before, rule(COMB, 1, 1, 0), UNFIT);
        refuses("rule: COMB UNFIT, TRUTHS are no FUNCTIONS", before, rule(COMB, 3, 3, 0), UNFIT);
        refuses("rule: COMB UNFIT, the first is no EQ", before, rule(COMB, 4, 1, 0), UNFIT);
        refuses("rule: COMB UNFIT, the second is no EQ", before, rule(COMB, 2, 4, 0), UNFIT);
        Run likeEq = assumes(row(APP, 2, 0), row(EQ, 0, 1), row(EQ, L + 7, APP, 7, 0, L + 7, 0));
        refuses("rule: COMB UNFIT, the first is APP with that PART", likeEq, rule(COMB, 0, 1, 0), UNFIT);
        refuses("rule: COMB UNFIT, the second is APP with that PART", likeEq, rule(COMB, 2, 0, 0), UNFIT);
        takes("rule: COMB of EQ with that PART", after(likeEq, x -> x.rule(ASSUME, read(x, EQ, 2, 2), 0, 0)), rule(COMB, 2, 3, 0), 4);
    }

    private static void absUnfit() {
        Run before = assumes(row(EQ, 4, 5), row(EQ, 5, 6), row(0), row(EQ, L + 7, 7, L + 7, 4));
        Run chain = after(before, does(rule(TRANS, 0, 1, 0)));
        for (int v : new int[] {4, 5}) refuses("rule: ABS UNFIT, NAME " + v + " is in A", before, rule(ABS, 0, v, 0), UNFIT);
        for (int v : new int[] {4, 5, 6}) refuses("rule: ABS UNFIT, NAME " + v + " is in one of A", chain, rule(ABS, 4, v, 0), UNFIT);
        for (int v : new int[] {0, 1, 2, 3, 7}) takes("rule: ABS, NAME " + v + " is in none of A", chain, rule(ABS, 4, v, 0), 5);
        takes("rule: ABS, a variable is no NAME", before, rule(ABS, 3, 7, 0), 4);
        takes("rule: ABS, a NAME in the CONCLUSION alone", refls(row(4)), rule(ABS, 0, 4, 0), 1);
        for (int v : new int[] {0, 4}) refuses("rule: ABS UNFIT, no EQ", before, rule(ABS, 2, v, 0), UNFIT);
        refuses("rule: ABS UNFIT, no EQ but APP", assumes(row(APP, 2, 0)), rule(ABS, 0, 4, 0), UNFIT);
    }

    private static void betaUnfit() {
        int[][] wrong = {{4}, {0}, {L, 0}, {L, APP, L, 0, 4}, {APP, 3, 4}, {APP, 3, APP, L, 0, 4}, {APP, APP, L, 0, 3, 4},
            {EQ, L, 0, L, 0}, {EQ, APP, L, 0, 4, 4}, {APP, APP, L, L + 1, 1, 4, 5}};
        for (int[] draft : wrong) {
            refuses("rule: BETA UNFIT of " + java.util.Arrays.toString(draft), after(Edges::names, reads(draft)), rule(BETA, 0, 0, 0), UNFIT);
        }
        int[][] right = {{APP, L, 0, 4}, {APP, L, 5, 4}, {APP, L, L + 1, 0, 4}, {APP, L, APP, 0, 4, L, 0}, {APP, L, EQ, 0, 0, 4}};
        for (int[] draft : right) {
            takes("rule: BETA of " + java.util.Arrays.toString(draft), after(Edges::names, reads(draft)), rule(BETA, 0, 0, 0), 0);
        }
    }

    private static void eqmpUnfit() {
        Run before = assumes(row(EQ, 0, 1), row(0), row(1), row(EQ, APP, 2, 0, 1), row(EQ, 4, 5), row(APP, 2, 0), row(EQ, EQ, 4, 5, 0));
        takes("rule: EQMP", before, rule(EQMP, 0, 1, 0), 7);
        takes("rule: EQMP of an APP", before, rule(EQMP, 3, 5, 0), 7);
        takes("rule: EQMP of an EQ", before, rule(EQMP, 6, 4, 0), 7);
        refuses("rule: EQMP UNFIT, the other side", before, rule(EQMP, 0, 2, 0), UNFIT);
        refuses("rule: EQMP UNFIT, the other way", before, rule(EQMP, 1, 0, 0), UNFIT);
        refuses("rule: EQMP UNFIT, no EQ", before, rule(EQMP, 5, 1, 0), UNFIT);
        refuses("rule: EQMP UNFIT, it ends like the side", before, rule(EQMP, 3, 1, 0), UNFIT);
        refuses("rule: EQMP UNFIT, EQ of THINGS", before, rule(EQMP, 4, 1, 0), UNFIT);
        refuses("rule: EQMP UNFIT, the whole EQ", before, rule(EQMP, 0, 0, 0), UNFIT);
        Run types = after(otherTypes(), x -> x.rule(ASSUME, read(x, EQ, EQ, L, 0, L, 0, 1), 0, 0));
        takes("rule: EQMP of these TYPES", types, rule(EQMP, 2, 1, 0), 3);
        refuses("rule: EQMP UNFIT, ALIKE but for TYPES", types, rule(EQMP, 2, 0, 0), UNFIT);
    }

    private static void instUnfit() {
        Run before = after(assumes(row(EQ, 4, 5)), reads(row(6), row(0), row(3), row(2), row(APP, 3, 4)));
        for (int t : new int[] {1, 5}) takes("rule: INST of THINGS", before, rule(INST, 0, 4, t), 1);
        for (int t : new int[] {0, 2, 3, 4}) refuses("rule: INST UNFIT, TERM " + t + " for THINGS", before, rule(INST, 0, 4, t), UNFIT);
        for (int t : new int[] {0, 2}) takes("rule: INST of TRUTHS", before, rule(INST, 0, 0, t), 1);
        for (int t : new int[] {1, 3, 4, 5}) refuses("rule: INST UNFIT, TERM " + t + " for TRUTHS", before, rule(INST, 0, 1, t), UNFIT);
        takes("rule: INST of FUNCTIONS", before, rule(INST, 0, 3, 3), 1);
        for (int t : new int[] {0, 1, 2, 4, 5}) refuses("rule: INST UNFIT, TERM " + t + " for FUNCTIONS", before, rule(INST, 0, 3, t), UNFIT);
    }

    // BIG if a TERM would have more than 24 SYMBOLS

    /** The last length of the CONCLUSION that is taken, and the first that is not. */
    private static void length(String name, Run last, Run first, int kind, int a, int b) {
        int made = theoremsOf(last);
        takes("rule: " + name + ", no more than 24 SYMBOLS", last, rule(kind, a, b, 0), made);
        refuses("rule: " + name + " BIG, more than 24 SYMBOLS", first, rule(kind, a, b, 0), BIG);
    }

    private static void hasLength(String name, Run last, int kind, int a, int b) {
        takes("rule: " + name + " has 24", last, x -> x.term(x.theorem(x.rule(kind, a, b, 0), 0), 0), 24);
    }

    private static void symbolsBig() {
        length("REFL", after(Edges::names, reads(thing(11))), after(Edges::names, reads(thing(12))), REFL, 0, 0);
        takes("rule: REFL of the longest", after(Edges::names, reads(thing(11))), x -> x.term(x.theorem(x.rule(REFL, 0, 0, 0), 0), 0), 23);
        refuses("rule: REFL BIG of 24", after(Edges::names, reads(thing(24))), rule(REFL, 0, 0, 0), BIG);
        takes("rule: ASSUME of 24", after(Edges::names, reads(truth(24))), rule(ASSUME, 0, 0, 0), 0);
        Run trans = assumes(eq(thing(11), row(6)), eq(row(6), thing(12)));
        length("TRANS", trans, assumes(eq(thing(12), row(6)), eq(row(6), thing(12))), TRANS, 0, 1);
        hasLength("TRANS", trans, TRANS, 0, 1);
        Run comb = after(refls(row(3)), x -> x.rule(ASSUME, read(x, eq(thing(9), thing(10))), 0, 0));
        length("COMB", comb, after(refls(row(3)), x -> x.rule(ASSUME, read(x, eq(thing(10), thing(10))), 0, 0)), COMB, 0, 1);
        hasLength("COMB", comb, COMB, 0, 1);
        Run abs = assumes(eq(thing(10), thing(11)));
        length("ABS", abs, assumes(eq(thing(11), thing(11))), ABS, 0, 6);
        hasLength("ABS", abs, ABS, 0, 6);
        Run beta = after(Edges::names, reads(join(row(APP, L + 7), thing(10), row(6))));
        length("BETA", beta, after(Edges::names, reads(join(row(APP, L + 7), thing(9), thing(4)))), BETA, 0, 0);
        hasLength("BETA", beta, BETA, 0, 0);
        Run betaUsed = after(Edges::names, reads(join(row(APP, L + 7, APP, 3, 7), thing(8))));
        length("BETA with its variable", betaUsed, after(Edges::names, reads(join(row(APP, L + 7, EQ, 7, 7), thing(6)))), BETA, 0, 0);
        hasLength("BETA with its variable", betaUsed, BETA, 0, 0);
        Run deduct = assumes(truth(11), truth(12));
        length("DEDUCT", deduct, assumes(truth(12), join(row(APP, 2), truth(10))), DEDUCT, 0, 1);
        hasLength("DEDUCT", deduct, DEDUCT, 0, 1);
        Run eqmp = assumes(eq(row(0), truth(22)), row(0));
        takes("rule: EQMP of a TERM of 24", eqmp, rule(EQMP, 0, 1, 0), 2);
    }

    private static void instBig() {
        // BETA of APP LAM 4 and 6: EQ with 6 in it once, six SYMBOLS and no HYPOTHESES.
        Run once = x -> {
            names(x);
            x.rule(BETA, read(x, APP, L, 4, 6), 0, 0);
        };
        takes("rule: INST, a CONCLUSION of 24", after(once, reads(thing(19))), x -> x.term(x.theorem(x.rule(INST, 0, 6, 2), 0), 0), 24);
        refuses("rule: INST BIG, a CONCLUSION of 25", after(once, reads(thing(20))), rule(INST, 0, 6, 2), BIG);
        Run both = assumes(row(EQ, 6, 5));
        takes("rule: INST, both of 24", after(both, reads(thing(22))), rule(INST, 0, 6, 1), 1);
        refuses("rule: INST BIG, both of 25", after(both, reads(thing(23))), rule(INST, 0, 6, 1), BIG);
        // The CONCLUSION is 0, the NAME is in HYPOTHESES alone: the longer one first, then second.
        Run first = after(assumes(row(EQ, EQ, 6, 5, 0), row(EQ, 6, 5)), does(rule(EQMP, 0, 1, 0)));
        takes("rule: INST, the first HYPOTHESIS of 24", after(first, reads(thing(20))), rule(INST, 2, 6, 3), 3);
        refuses("rule: INST BIG, the first HYPOTHESIS of 25", after(first, reads(thing(21))), rule(INST, 2, 6, 3), BIG);
        Run last = after(assumes(row(EQ, 1, 0), row(EQ, EQ, 6, 5, 1), row(EQ, 6, 5)), does(rule(EQMP, 1, 2, 0), rule(EQMP, 0, 3, 0)));
        takes("rule: INST, a later HYPOTHESIS of 24", after(last, reads(thing(20))), rule(INST, 4, 6, 5), 5);
        refuses("rule: INST BIG, a later HYPOTHESIS of 25", after(last, reads(thing(21))), rule(INST, 4, 6, 5), BIG);
        takes("rule: INST, a long TERM for a NAME that is not there", after(last, reads(thing(24))), rule(INST, 4, 7, 5), 5);
    }

    /** BIG if a PART of it would have a TYPE of more than 24 digits: 23 and 26 are the nearest that there are. */
    private static void digitsBig() {
        int seven = 0b1_1_01_1_01_1_01_1_01_1_01_1_01_01, eight = 0b1_1_01_1_01_1_01_1_01_1_01_1_01_1_01_01;
        Run before = x -> {
            x.declare(1, seven);
            x.declare(2, eight);
            x.declare(3, 4);
            x.rule(REFL, read(x, 1), 0, 0);
            x.rule(REFL, read(x, 2), 0, 0);
            x.rule(REFL, read(x, 4), 0, 0);
            x.rule(REFL, read(x, EQ, 2, 2), 0, 0);
        };
        takes("rule: ABS, a body of 20 digits", before, x -> x.symbol(x.theorem(x.rule(ABS, 0, 4, 0), 0), 1, 1), eight);
        for (int v : new int[] {0, 3, 4}) refuses("rule: ABS BIG, a body of 23 digits", before, rule(ABS, 1, v, 0), BIG);
        takes("rule: ABS, a variable of 20 digits", before, rule(ABS, 2, 1, 0), 4);
        refuses("rule: ABS BIG, a variable of 23 digits", before, rule(ABS, 2, 2, 0), BIG);
        refuses("rule: ABS BIG, a variable of 23 digits and TRUTHS", before, rule(ABS, 3, 2, 0), BIG);
        refuses("rule: ABS BIG, a variable and a body of 20 digits", before, rule(ABS, 0, 1, 0), BIG);
        refuses("rule: ABS BIG, 47 digits", before, rule(ABS, 1, 2, 0), BIG);
    }

    // BIG if there would be more than 6 HYPOTHESES

    private static final int[][] LINKS = {{EQ, 4, 5}, {EQ, 5, 6}, {EQ, 6, 7}, {EQ, 7, 4}, {EQ, 4, 6}, {EQ, 6, 5}};

    /** TRANS of so many links, as the last THEOREM but for those that drafts are assumed as. */
    private static Run chain(int links, int[]... drafts) {
        return x -> {
            names(x);
            int p = x.rule(ASSUME, read(x, LINKS[0]), 0, 0);
            for (int i = 1; i < links; i++) p = x.rule(TRANS, p, x.rule(ASSUME, read(x, LINKS[i]), 0, 0), 0);
            for (int[] draft : drafts) x.rule(ASSUME, read(x, draft), 0, 0);
        };
    }

    private static void six(String name, Run before, int kind, int a, int b) {
        takes("rule: " + name + ", 6 HYPOTHESES", before, x -> x.theorem(x.rule(kind, a, b, 0), 1), 6);
    }

    private static void hypothesesBig() {
        // Five links: THEOREM 8, EQ 4 6. Six links: THEOREM 10, EQ 4 5.
        takes("five links", chain(5), x -> x.theorem(8, 1), 5);
        takes("six links", chain(6), x -> x.theorem(10, 1), 6);
        six("TRANS", chain(5, row(EQ, 6, 5)), TRANS, 8, 9);
        refuses("rule: TRANS BIG, 7 HYPOTHESES", chain(6, row(EQ, 5, 7)), rule(TRANS, 10, 11, 0), BIG);
        six("TRANS with one that is there", chain(6, row(EQ, 5, 6)), TRANS, 10, 11);
        refuses("rule: TRANS BIG, 7 HYPOTHESES, the other way", chain(6, row(EQ, 7, 4), row(EQ, 6, 4)), rule(TRANS, 12, 10, 0), BIG);
        six("EQMP", chain(5, row(EQ, EQ, 4, 6, 0)), EQMP, 9, 8);
        refuses("rule: EQMP BIG, 7 HYPOTHESES", chain(6, row(EQ, EQ, 4, 5, 0)), rule(EQMP, 11, 10, 0), BIG);
        six("DEDUCT", chain(5, row(0)), DEDUCT, 8, 9);
        refuses("rule: DEDUCT BIG, 7 HYPOTHESES", chain(6, row(0)), rule(DEDUCT, 10, 11, 0), BIG);
        refuses("rule: DEDUCT BIG, 7 HYPOTHESES, the other way", chain(6, row(0)), rule(DEDUCT, 11, 10, 0), BIG);
        six("DEDUCT without one of them", chain(6, row(EQ, 7, 4)), DEDUCT, 10, 11);
        takes("rule: DEDUCT, that one is behind the others", chain(6, row(EQ, 7, 4)),
            x -> x.hypothesis(x.rule(DEDUCT, 10, 11, 0), 5) - x.hypothesis(11, 0), 0);
        // EQ 4 5 is the CONCLUSION of the six links, and one of them.
        takes("rule: DEDUCT without that of the other", chain(6, LINKS[0]), x -> x.theorem(x.rule(DEDUCT, 11, 10, 0), 1), 5);
        Run functions = after(chain(5, row(EQ, 0, 1)), does(rule(ABS, 8, 0, 0)));
        six("COMB", functions, COMB, 10, 9);
        Run more = after(chain(6, row(EQ, 0, 1)), does(rule(ABS, 10, 0, 0)));
        six("ABS", chain(6), ABS, 10, 0);
        refuses("rule: COMB BIG, 7 HYPOTHESES", more, rule(COMB, 12, 11, 0), BIG);
        six("INST", after(chain(6), reads(row(APP, 3, 4))), INST, 10, 0);
        takes("rule: INST, 6 HYPOTHESES", after(chain(6), reads(row(APP, 3, 4))), x -> x.theorem(x.rule(INST, 10, 7, x.count(0) - 1), 1), 6);
        // APP 3 7 for 5 or for 6: few of the six of each are ALIKE.
        Run twelve = after(chain(6), x -> {
            int t = read(x, APP, 3, 7);
            x.rule(INST, 10, 5, t);
            x.rule(INST, 10, 6, t);
        });
        refuses("rule: DEDUCT BIG, far more than 6 HYPOTHESES", twelve, rule(DEDUCT, 11, 12, 0), BIG);
    }

    private static void hypothesesOnce() {
        Run same = assumes(row(EQ, 4, 4));
        for (int kind : new int[] {TRANS, DEDUCT}) {
            int due = kind == TRANS ? 1 : 0;
            takes("rule: no HYPOTHESIS twice, " + kind, same, x -> x.theorem(x.rule(kind, 0, 0, 0), 1), due);
        }
        Run merging = after(assumes(row(EQ, 4, 5), row(EQ, 5, 6)), does(rule(TRANS, 0, 1, 0)), reads(row(5)));
        takes("rule: INST, HYPOTHESES stay two", merging, x -> x.theorem(x.rule(INST, 2, 4, 3), 1), 2);
        Run all = after(assumes(row(EQ, 4, 5), row(EQ, 5, 6)), does(rule(TRANS, 0, 1, 0)), x -> {
            int five = read(x, 5);
            x.rule(INST, x.rule(INST, 2, 4, five), 6, five);
        });
        takes("rule: INST, HYPOTHESES that become ALIKE are one", all, theorem(4, 1), 1);
    }

    // FULL if there would be more than 64 TERMS or 40 THEOREMS

    private static void termsFull() {
        for (Case one : cases()) {
            int made = theoremsOf(one.before);
            Run almost = after(one.before, fill(63)), full = after(one.before, fill(64));
            takes("63 TERMS", almost, count(0), 63);
            takes("rule: " + one.name + ", the 64th TERM", almost, one.call(), made);
            takes("rule: " + one.name + " made it", after(almost, does(one.call())), count(0), 64);
            refuses("rule: " + one.name + " FULL, a 65th TERM", full, one.call(), FULL);
            takes("rule: " + one.name + ", 64 TERMS, none new", after(one.before, does(one.call()), fill(64)), one.call(), made + 1);
        }
        Run truths = after(Edges::names, fill(64));
        takes("rule: ASSUME, 64 TERMS, none new", truths, rule(ASSUME, 0, 0, 0), 0);
    }

    private static void manyTermsFull() {
        // A HYPOTHESIS and the CONCLUSION are new.
        Run two = after(assumes(row(EQ, 4, 5), row(EQ, 5, 6)), does(rule(TRANS, 0, 1, 0)), reads(row(APP, 3, 7)));
        takes("rule: INST, the 63rd TERM and the 64th", after(two, fill(62)), rule(INST, 2, 4, 3), 3);
        takes("rule: INST made both", after(two, fill(62), does(rule(INST, 2, 4, 3))), count(0), 64);
        refuses("rule: INST FULL, the 64th TERM and a 65th", after(two, fill(63)), rule(INST, 2, 4, 3), FULL);
        refuses("rule: INST FULL, two too many", after(two, fill(64)), rule(INST, 2, 4, 3), FULL);
        // 6 to 4 to 6 to 5 to 6 to 7 to 6: the NAME 6 is in all six HYPOTHESES and in the CONCLUSION.
        Run seven = x -> {
            names(x);
            int p = x.rule(ASSUME, read(x, EQ, 6, 4), 0, 0);
            for (int[] link : new int[][] {{EQ, 4, 6}, {EQ, 6, 5}, {EQ, 5, 6}, {EQ, 6, 7}, {EQ, 7, 6}}) {
                p = x.rule(TRANS, p, x.rule(ASSUME, read(x, link), 0, 0), 0);
            }
            read(x, APP, 3, 6);
        };
        Call all = rule(INST, 10, 6, 7);
        takes("rule: INST, seven TERMS to 64", after(seven, fill(57)), all, 11);
        takes("rule: INST made seven", after(seven, fill(57), does(all)), count(0), 64);
        for (int terms : new int[] {58, 60, 63, 64}) {
            refuses("rule: INST FULL, seven TERMS and " + terms, after(seven, fill(terms)), all, FULL);
        }
    }

    private static void theoremsFull() {
        for (Case one : cases()) {
            Run truth = after(one.before, x -> {
                int t = read(x, EQ, 7, 7);
                assumeUpTo(39, t).on(x);
            });
            Run full = after(truth, x -> x.rule(ASSUME, read(x, EQ, 7, 7), 0, 0));
            takes("rule: " + one.name + ", the 40th THEOREM", truth, one.call(), 39);
            refuses("rule: " + one.name + " FULL, a 41st THEOREM", full, one.call(), FULL);
        }
        Run forty = after(Edges::names, reads(row(EQ, 7, 7)), assumeUpTo(40, 0));
        refuses("rule: ASSUME FULL, a 41st THEOREM", forty, rule(ASSUME, 0, 0, 0), FULL);
        takes("rule: ASSUME, the 40th THEOREM", after(Edges::names, reads(row(EQ, 7, 7)), assumeUpTo(39, 0)), rule(ASSUME, 0, 0, 0), 39);
        refuses("rule: FULL, a 41st THEOREM of the last two", forty, rule(DEDUCT, 38, 39, 0), FULL);
        refuses("rule: FULL, 64 TERMS and 40 THEOREMS", after(forty, fill(64)), rule(DEDUCT, 38, 39, 0), FULL);
    }

    // What is tested first is named first

    private static void testsInOrder() {
        Run truth = assumes(row(0), row(EQ, 4, 5));
        refuses("rule: REFUSED before UNFIT, TRANS", truth, rule(TRANS, 0, 2, 0), REFUSED);
        refuses("rule: REFUSED before UNFIT, TRANS the other way", truth, rule(TRANS, 2, 0, 0), REFUSED);
        refuses("rule: REFUSED before UNFIT, COMB", truth, rule(COMB, 0, -1, 0), REFUSED);
        refuses("rule: REFUSED before UNFIT, EQMP", truth, rule(EQMP, 0, 2, 0), REFUSED);
        refuses("rule: REFUSED before UNFIT, ABS", truth, rule(ABS, 0, 8, 0), REFUSED);
        refuses("rule: REFUSED before UNFIT, INST", truth, rule(INST, 0, 0, 2), REFUSED);
        refuses("rule: REFUSED before UNFIT, INST of no NAME", truth, rule(INST, 0, 8, 1), REFUSED);
        refuses("rule: REFUSED before UNFIT, INST of no THEOREM", truth, rule(INST, 2, 4, 0), REFUSED);
        Run forty = after(Edges::names, reads(row(EQ, 7, 7), row(7), thing(12)), assumeUpTo(40, 0));
        for (int kind = 0; kind < 9; kind++) {
            refuses("rule: REFUSED before FULL, " + kind, forty, rule(kind, 40, 0, 0), REFUSED);
        }
        refuses("rule: REFUSED before FULL, no kind", forty, rule(9, 0, 0, 0), REFUSED);
        refuses("rule: UNFIT before FULL, ASSUME", forty, rule(ASSUME, 1, 0, 0), UNFIT);
        refuses("rule: UNFIT before FULL, BETA", forty, rule(BETA, 0, 0, 0), UNFIT);
        refuses("rule: UNFIT before FULL, COMB", forty, rule(COMB, 0, 0, 0), UNFIT);
        refuses("rule: UNFIT before FULL, ABS", forty, rule(ABS, 0, 7, 0), UNFIT);
        refuses("rule: UNFIT before FULL, EQMP", forty, rule(EQMP, 0, 0, 0), UNFIT);
        refuses("rule: UNFIT before FULL, INST", forty, rule(INST, 0, 7, 0), UNFIT);
        refuses("rule: BIG before FULL, 40 THEOREMS", forty, rule(REFL, 2, 0, 0), BIG);
        refuses("rule: BIG before FULL, 64 TERMS", after(Edges::names, reads(thing(12)), fill(64)), rule(REFL, 0, 0, 0), BIG);
        refuses("rule: UNFIT before FULL, 64 TERMS", after(assumes(row(EQ, 4, 5)), fill(64)), rule(TRANS, 0, 0, 0), UNFIT);
        refuses("rule: REFUSED before FULL, 64 TERMS", after(assumes(row(EQ, 4, 5)), fill(64)), rule(REFL, 64, 0, 0), REFUSED);
        unfitBeforeBig();
        bigBeforeFull();
    }

    private static void unfitBeforeBig() {
        refuses("rule: UNFIT before BIG, ABS", assumes(eq(thing(11), thing(11))), rule(ABS, 0, 4, 0), UNFIT);
        refuses("rule: UNFIT before BIG, TRANS", assumes(eq(thing(12), row(6)), eq(row(7), thing(12))), rule(TRANS, 0, 1, 0), UNFIT);
        refuses("rule: UNFIT before BIG, COMB", assumes(eq(thing(12), row(6)), eq(row(6), thing(12))), rule(COMB, 0, 1, 0), UNFIT);
        refuses("rule: UNFIT before BIG, INST", after(assumes(row(EQ, 0, 1)), reads(thing(24))), rule(INST, 0, 0, 1), UNFIT);
        refuses("rule: UNFIT before 7 HYPOTHESES, TRANS", chain(6, row(EQ, 6, 4)), rule(TRANS, 10, 11, 0), UNFIT);
        refuses("rule: UNFIT before 7 HYPOTHESES, EQMP", chain(6, row(EQ, 0, 1)), rule(EQMP, 11, 10, 0), UNFIT);
        refuses("rule: UNFIT before 7 HYPOTHESES, COMB", chain(6, row(EQ, 0, 1)), rule(COMB, 10, 11, 0), UNFIT);
        refuses("rule: REFUSED before BIG", after(assumes(eq(thing(11), thing(11)))), rule(ABS, 0, 8, 0), REFUSED);
        refuses("rule: REFUSED before BIG, INST", after(assumes(row(EQ, 6, 5)), reads(thing(24))), rule(INST, 0, -1, 1), REFUSED);
    }

    private static void bigBeforeFull() {
        Run links = after(chain(6, row(EQ, 5, 7)), x -> x.rule(REFL, x.hypothesis(0, 0), 0, 0));
        refuses("rule: 7 HYPOTHESES before FULL, 40 THEOREMS", after(links, assumeUpTo(40, 0)), rule(TRANS, 10, 11, 0), BIG);
        refuses("rule: 7 HYPOTHESES before FULL, 64 TERMS", after(chain(6, row(0)), fill(64)), rule(DEDUCT, 10, 11, 0), BIG);
        Run hypothesis = after(assumes(row(EQ, EQ, 6, 5, 0), row(EQ, 6, 5)), does(rule(EQMP, 0, 1, 0)), reads(thing(21)));
        refuses("rule: INST, a HYPOTHESIS BIG before FULL", after(hypothesis, fill(64)), rule(INST, 2, 6, 3), BIG);
        // EQ 6 5 and EQ 5 6 come to 12 SYMBOLS and are new, the CONCLUSION EQ 6 6 is too long.
        Run conclusion = after(assumes(row(EQ, 6, 5), row(EQ, 5, 6)), does(rule(TRANS, 0, 1, 0)), reads(thing(12)));
        for (int terms : new int[] {62, 63, 64}) {
            refuses("rule: INST, a CONCLUSION BIG before FULL, " + terms, after(conclusion, fill(terms)), rule(INST, 2, 6, 3), BIG);
        }
        Run forty = after(conclusion, assumeUpTo(40, 0));
        refuses("rule: INST, a CONCLUSION BIG before FULL, 40 THEOREMS", forty, rule(INST, 2, 6, 3), BIG);
        refuses("rule: a TYPE that is BIG before FULL", x -> {
            x.declare(1, 0b1_1_01_1_01_1_01_1_01_1_01_1_01_1_01_01);
            x.rule(REFL, read(x, 1), 0, 0);
            fill(64).on(x);
        }, rule(ABS, 0, 4, 0), BIG);
    }

    // 10: theorem and 11: hypothesis

    private static void theoremRefuses() {
        Run two = refls(row(4), row(5));
        Run forty = after(Edges::names, reads(row(EQ, 7, 7)), assumeUpTo(40, 0));
        for (int what = 0; what < 6; what++) {
            for (int p : new int[] {-1, 2, 3, 39, 40, 41, LEAST, MOST}) {
                refuses("theorem: REFUSED for THEOREM " + p + " of two", two, theorem(p, what), REFUSED);
            }
            for (int p : new int[] {-1, 40, 41}) refuses("theorem: REFUSED for THEOREM " + p + " of 40", forty, theorem(p, what), REFUSED);
        }
        for (int what : new int[] {-1, 6, 7, LEAST, MOST}) {
            refuses("theorem: REFUSED for what " + what, two, theorem(0, what), REFUSED);
            refuses("theorem: REFUSED for what " + what + " of the last", two, theorem(1, what), REFUSED);
        }
        int[] due = {0, 1, ASSUME, -1, -1, 1};
        for (int what = 0; what < 6; what++) takes("theorem: the last of 40", forty, theorem(39, what), due[what]);
    }

    private static void theoremAtItsEdges() {
        for (Case one : cases()) {
            int made = theoremsOf(one.before);
            Run before = after(one.before, does(one.call()));
            boolean ofNone = one.kind == REFL || one.kind == BETA, ofOne = one.kind == ABS || one.kind == INST;
            takes("theorem: its RULE, " + one.name, before, theorem(made, 2), one.kind);
            takes("theorem: the first of which it was made, " + one.name, before, theorem(made, 3), ofNone ? -1 : 0);
            takes("theorem: the second of which it was made, " + one.name, before, theorem(made, 4), ofNone || ofOne ? -1 : 1);
            takes("theorem: on how many it rests, " + one.name, before, theorem(made, 5), ofNone ? 1 : ofOne ? 2 : 3);
        }
        takes("theorem: 0 HYPOTHESES", refls(row(4)), theorem(0, 1), 0);
        takes("theorem: 6 HYPOTHESES", chain(6), theorem(10, 1), 6);
        takes("theorem: the same twice is one", after(refls(row(4)), does(rule(TRANS, 0, 0, 0))), theorem(1, 5), 2);
        // Each of 40 rests on all before it.
        Run tall = x -> {
            names(x);
            x.rule(REFL, read(x, 4), 0, 0);
            for (int p = 1; p < 40; p++) x.rule(TRANS, p - 1, p - 1, 0);
        };
        takes("theorem: it rests on 40", tall, theorem(39, 5), 40);
        takes("theorem: it rests on 32", tall, theorem(31, 5), 32);
        takes("theorem: it rests on 33", tall, theorem(32, 5), 33);
        Run apart = x -> {
            names(x);
            int t = read(x, 4);
            for (int p = 0; p < 38; p++) x.rule(REFL, t, 0, 0);
            x.rule(TRANS, 0, 37, 0);
        };
        takes("theorem: it rests on the first and the last", apart, theorem(38, 5), 3);
    }

    private static void hypothesisRefuses() {
        Run none = refls(row(4)), one = assumes(row(0)), most = chain(6);
        for (int k : new int[] {-1, 0, 1, 5, 6, LEAST, MOST}) {
            refuses("hypothesis: REFUSED for " + k + " of none", none, hypothesis(0, k), REFUSED);
            if (k != 0) refuses("hypothesis: REFUSED for " + k + " of one", one, hypothesis(0, k), REFUSED);
        }
        takes("hypothesis: the one", one, hypothesis(0, 0), 0);
        takes("hypothesis: the first of 6", most, x -> x.hypothesis(10, 0) - x.hypothesis(0, 0), 0);
        takes("hypothesis: the last of 6", most, x -> x.hypothesis(10, 5) - x.hypothesis(9, 0), 0);
        for (int k : new int[] {-1, 6, 7, LEAST, MOST}) refuses("hypothesis: REFUSED for " + k + " of 6", most, hypothesis(10, k), REFUSED);
        for (int p : new int[] {-1, 1, 2, 39, 40, 41, LEAST, MOST}) {
            refuses("hypothesis: REFUSED for THEOREM " + p, one, hypothesis(p, 0), REFUSED);
        }
        Run forty = after(Edges::names, reads(row(EQ, 7, 7)), assumeUpTo(40, 0));
        takes("hypothesis: of the last of 40", forty, hypothesis(39, 0), 0);
        refuses("hypothesis: REFUSED for THEOREM 40", forty, hypothesis(40, 0), REFUSED);
    }
}
