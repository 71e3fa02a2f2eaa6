/** The edges of promises 12 to 17, sentence by sentence. */
public final class GoalEdgeTest extends Edges {
    /** A TACTIC that goes, on a desk with a run behind it, and how many GOALS are open then. */
    private record Case(String name, Run before, int kind, int x, int due) {
        Call call() {
            return tactic(kind, x);
        }
    }

    public static void main(String[] args) {
        goalRefuses();
        goalUnfit();
        goalTakesAll();
        tacticRefusesKinds();
        tacticWithoutGoals();
        tacticRefusesArguments();
        tacticLooksAtNoMore();
        reflAndAssumeUnfit();
        transAndEqmpUnfit();
        combUnfit();
        absUnfit();
        betaUnfit();
        deductUnfit();
        exactUnfit();
        refusedRuleLeavesNothing();
        symbolsBig();
        hypothesesBig();
        goalsFull();
        termsFull();
        tacticTestsInOrder();
        undoRefuses();
        undoTakesBack();
        repeatRefuses();
        repeatEnds();
        repeatInOrder();
        repeatLeastName();
        openRefuses();
        closeRefuses();
        closeFull();
        closeMakesNoTerms();
        end();
    }

    private static Run aim(int... draft) {
        return x -> {
            names(x);
            x.goal(read(x, draft));
        };
    }

    /** EQ s u is the only open GOAL of so many (NAME 7 is in neither); TRANS with s and REFL add two, ABS is first if they are even. */
    private static Run crowd(int goals, int[] s, int[] u) {
        return x -> {
            names(x);
            int left = read(x, s);
            boolean even = goals % 2 == 0;
            x.goal(read(x, even ? join(row(EQ, L + 7), s, row(L + 7), u) : eq(s, u)));
            if (even) x.tactic(ABS, 7);
            for (int made = even ? 2 : 1; made < goals; made += 2) {
                x.tactic(TRANS, left);
                x.tactic(REFL, 0);
            }
        };
    }

    /** EQ 4 5 is the first open GOAL of so many (an even number), with itself as a HYPOTHESIS; another one is open. */
    private static Run crowdAssuming(int goals) {
        return x -> {
            names(x);
            int left = read(x, 4);
            x.goal(read(x, EQ, L + 7, EQ, 4, 5, L + 7, EQ, 4, 5));
            x.tactic(ABS, 7);
            x.tactic(DEDUCT, 0);
            for (int made = 4; made < goals; made += 2) {
                x.tactic(TRANS, left);
                x.tactic(REFL, 0);
            }
        };
    }

    private static final int[][] TRUE = {{EQ, 4, 4}, {EQ, 4, 5}, {EQ, 4, 6}, {EQ, 5, 4}, {EQ, 5, 5}, {EQ, 5, 6}, {EQ, 6, 4}, {EQ, 6, 5}};

    /** The open GOAL TRUE[n] has the HYPOTHESES TRUE[0] to TRUE[n - 1]: TERMS 0 to 7 are TRUE, TERM 8 is EQ 0 1, 9 and 10 are 0 and 1. */
    private static Run assuming(int n) {
        return x -> {
            names(x);
            for (int[] draft : TRUE) read(x, draft);
            read(x, EQ, 0, 1);
            read(x, 0);
            read(x, 1);
            x.goal(0);
            for (int k = 1; k <= n; k++) {
                x.tactic(EQMP, k);
                x.tactic(DEDUCT, 0);
            }
        };
    }

    private static Case[] cases() {
        return new Case[] {
            new Case("REFL", aim(EQ, 4, 4), REFL, 0, 0),
            new Case("ASSUME", after(aim(EQ, 0, 0), does(tactic(DEDUCT, 0))), ASSUME, 0, 1),
            new Case("TRANS", after(aim(EQ, APP, 3, 4, 5), reads(row(APP, 3, 6))), TRANS, 1, 2),
            new Case("COMB", aim(EQ, APP, 3, APP, 3, 4, APP, L, 0, 5), COMB, 0, 2),
            new Case("ABS", aim(EQ, L + 7, APP, 3, 7, L + 7, APP, 3, 5), ABS, 6, 1),
            new Case("BETA", aim(EQ, APP, L, APP, 3, 0, 4, APP, 3, 4), BETA, 0, 0),
            new Case("EQMP", after(aim(EQ, 4, 5), reads(row(1))), EQMP, 1, 2),
            new Case("DEDUCT", aim(EQ, APP, 2, 0, APP, 2, 1), DEDUCT, 0, 2),
            new Case("EXACT", after(aim(EQ, 4, 4), reads(row(4)), does(rule(REFL, 1, 0, 0))), EXACT, 0, 0),
        };
    }

    // 12: goal

    private static void goalRefuses() {
        Run two = after(aim(EQ, 4, 5), reads(row(4)), does(tactic(TRANS, 1))), full = after(aim(EQ, 4, 5), reads(row(4)), fill(64));
        takes("goal: the first TERM", two, goal(0), 1);
        takes("goal: the last TERM", two, goal(2), 1);
        for (int t : new int[] {-1, 3, 4, 63, 64, LEAST, MOST}) refuses("goal: REFUSED if TERM " + t + " is not there", two, goal(t), REFUSED);
        for (int t : new int[] {-1, 64, 65, 71, 72}) refuses("goal: REFUSED if TERM " + t + " is not one of 64", full, goal(t), REFUSED);
        refuses("goal: REFUSED, with a draft", after(two, writes(EQ, 4)), goal(3), REFUSED);
        Run done = after(aim(EQ, 4, 4), does(tactic(REFL, 0)));
        refuses("goal: REFUSED, all GOALS done", done, goal(1), REFUSED);
    }

    private static void goalUnfit() {
        Run some = after(aim(EQ, APP, 3, 4, APP, 3, 5), does(tactic(COMB, 0), tactic(REFL, 0)),
            reads(row(4), row(2), row(L, EQ, 4, 4), row(APP, 3, 4), row(APP, 2, 0), row(0)));
        for (int t : new int[] {3, 4, 5, 6}) refuses("goal: UNFIT if TERM " + t + " is not of TRUTHS", some, goal(t), UNFIT);
        for (int t : new int[] {0, 1, 2, 7, 8}) takes("goal: TERM " + t + " is of TRUTHS", some, goal(t), 1);
    }

    /** All GOALS go; TERM t is the only one, open. */
    private static void goalTakesAll() {
        Run terms = after(Edges::names, reads(row(EQ, 4, 4), row(4), row(EQ, 0, 0)));
        Run plain = after(terms, does(goal(2)));
        same("goal: as if there had been no others", plain, after(terms, does(goal(0), tactic(TRANS, 1), tactic(REFL, 0), goal(2))));
        same("goal: as if none had been done", plain, after(terms, does(goal(0), tactic(REFL, 0), goal(2))));
        same("goal: as if it was the first time", plain, after(terms, does(goal(2), tactic(REFL, 0), goal(2))));
        same("goal: as if nothing had been taken back", plain, after(terms, does(goal(0), tactic(REFL, 0), Desk::undo, goal(2))));
        Run thirty = after(crowd(30, row(4), row(4)), does(goal(2)));
        takes("goal: 30 GOALS go", thirty, count(2), 1);
        takes("goal: the only one is open", thirty, count(3), 1);
        refuses("goal: no TACTIC since goal", thirty, Desk::undo, REFUSED);
        takes("goal: it has no HYPOTHESES", after(assuming(6), does(goal(0))), open(0, 1), 0);
    }

    // 13: tactic, REFUSED if kind is not 0..8, no GOAL is open, or x is not there

    private static void tacticRefusesKinds() {
        Run before = after(aim(EQ, 4, 4), does(rule(ASSUME, 0, 0, 0)));
        for (int kind : new int[] {-1, 9, 10, LEAST, MOST}) {
            refuses("tactic: REFUSED if kind is " + kind, before, tactic(kind, 0), REFUSED);
        }
        for (Case one : cases()) takes("tactic: kind " + one.kind + ", " + one.name, one.before, one.call(), one.due);
    }

    private static void tacticWithoutGoals() {
        Run none = after(Edges::names, reads(row(EQ, 4, 4)), does(rule(ASSUME, 0, 0, 0)));
        Run done = after(none, does(goal(0), tactic(REFL, 0))), closed = after(done, does(Desk::close));
        for (int kind = -1; kind < 10; kind++) {
            refuses("tactic: REFUSED, no GOALS, " + kind, none, tactic(kind, 0), REFUSED);
            refuses("tactic: REFUSED, no GOAL is open, " + kind, done, tactic(kind, 0), REFUSED);
            refuses("tactic: REFUSED, no GOALS after close, " + kind, closed, tactic(kind, 0), REFUSED);
        }
    }

    private static void tacticRefusesArguments() {
        // Both TERMS are of TRUTHS and fit; both THEOREMS are EXACT.
        Run terms = after(aim(EQ, 0, 1), reads(row(0)));
        takes("tactic: EQMP with the first TERM", terms, tactic(EQMP, 0), 2);
        takes("tactic: EQMP with the last TERM", terms, tactic(EQMP, 1), 2);
        takes("tactic: TRANS with the first TERM", terms, tactic(TRANS, 0), 2);
        takes("tactic: TRANS with the last TERM", terms, tactic(TRANS, 1), 2);
        for (int t : new int[] {-1, 2, 3, 63, 64, 72, LEAST, MOST}) {
            refuses("tactic: REFUSED if TERM " + t + " is not there for TRANS", terms, tactic(TRANS, t), REFUSED);
            refuses("tactic: REFUSED if TERM " + t + " is not there for EQMP", terms, tactic(EQMP, t), REFUSED);
        }
        Run lambdas = x -> x.goal(read(x, EQ, L, 0, L, 0));
        for (int v = 0; v < 8; v++) takes("tactic: ABS with NAME " + v, lambdas, tactic(ABS, v), 1);
        for (int v : new int[] {-1, 8, 9, LEAST, MOST}) {
            refuses("tactic: REFUSED if NAME " + v + " is not there for ABS", lambdas, tactic(ABS, v), REFUSED);
        }
        Run theorems = after(aim(EQ, 4, 4), reads(row(4)), does(rule(REFL, 1, 0, 0), rule(REFL, 1, 0, 0)));
        takes("tactic: EXACT with the first THEOREM", theorems, tactic(EXACT, 0), 0);
        takes("tactic: EXACT with the last THEOREM", theorems, tactic(EXACT, 1), 0);
        for (int p : new int[] {-1, 2, 3, 39, 40, 41, LEAST, MOST}) {
            refuses("tactic: REFUSED if THEOREM " + p + " is not there for EXACT", theorems, tactic(EXACT, p), REFUSED);
        }
        refuses("tactic: REFUSED, no THEOREMS for EXACT", aim(EQ, 4, 4), tactic(EXACT, 0), REFUSED);
    }

    /** For others x is not looked at. */
    private static void tacticLooksAtNoMore() {
        for (Case one : cases()) {
            if (one.kind == TRANS || one.kind == EQMP || one.kind == ABS || one.kind == EXACT) continue;
            for (int wild : new int[] {LEAST, -1, 8, 64, MOST}) {
                takes("tactic: " + one.name + " does not look at " + wild, one.before, tactic(one.kind, wild), one.due);
            }
        }
    }

    // UNFIT if the GOAL is not as said

    private static void unfit(int kind, int arg, int[]... drafts) {
        for (int[] draft : drafts) {
            String what = "tactic: " + kind + " UNFIT of " + java.util.Arrays.toString(draft);
            refuses(what, aim(draft), tactic(kind, arg), UNFIT);
        }
    }

    /** The first open GOAL is EQ 4 5 (TERM 2), with the HYPOTHESES EQ 4 5 and EQ 4 4. */
    private static Run firstOfTwo() {
        Run deduct = after(aim(EQ, EQ, 4, 5, EQ, 4, 5), reads(row(EQ, 4, 4)), does(tactic(DEDUCT, 0)));
        return after(deduct, does(tactic(EQMP, 1), tactic(DEDUCT, 0), tactic(REFL, 0)));
    }

    private static void reflAndAssumeUnfit() {
        unfit(REFL, 0, row(0), row(APP, 2, 0), row(EQ, 4, 5), row(EQ, 4, APP, 3, 4), row(EQ, APP, 3, 4, 4), row(EQ, L, 4, L, 5),
            row(EQ, APP, 3, 4, APP, 3, 5), row(APP, L, 0, 0));
        // The same SYMBOLS; the variables are of THINGS and of TRUTHS.
        unfit(REFL, 0, row(EQ, APP, L, 5, 4, APP, L, 5, 0), row(EQ, APP, L, 5, APP, L, 0, 4, APP, L, 5, APP, L, 0, 0));
        unfit(ASSUME, 0, row(0), row(EQ, 4, 4), row(EQ, 0, 0));
        Run others = after(aim(EQ, 0, 1), does(tactic(DEDUCT, 0)));
        refuses("tactic: ASSUME UNFIT, another one is in H", others, tactic(ASSUME, 0), UNFIT);
        refuses("tactic: ASSUME UNFIT, none of 6", assuming(6), tactic(ASSUME, 0), UNFIT);
        takes("tactic: ASSUME, the first of two", firstOfTwo(), tactic(ASSUME, 0), 2);
        takes("tactic: ASSUME, the last of 6", after(assuming(5), does(tactic(EQMP, 5), tactic(DEDUCT, 0))), tactic(ASSUME, 0), 12);
        takes("tactic: ASSUME, the only one of H", crowdAssuming(4), tactic(ASSUME, 0), 1);
    }

    private static void transAndEqmpUnfit() {
        int[][] others = {{0}, {3}, {L, EQ, 0, 0}, {EQ, 4, 5}};
        for (int[] draft : others) {
            refuses("tactic: TRANS UNFIT, another TYPE", after(aim(EQ, 4, 5), reads(draft)), x -> x.tactic(TRANS, x.count(0) - 1), UNFIT);
        }
        refuses("tactic: TRANS UNFIT, of THINGS for TRUTHS", after(aim(EQ, 0, 1), reads(row(4))), tactic(TRANS, 1), UNFIT);
        refuses("tactic: TRANS UNFIT, other FUNCTIONS", after(aim(EQ, 2, 2), reads(row(3))), tactic(TRANS, 1), UNFIT);
        refuses("tactic: TRANS UNFIT, APP with that PART", after(aim(APP, 2, 0), reads(row(2))), tactic(TRANS, 1), UNFIT);
        takes("tactic: TRANS of FUNCTIONS", after(aim(EQ, 2, 2), reads(row(2))), tactic(TRANS, 1), 2);
        unfit(TRANS, 0, row(0), row(APP, 2, 0), row(APP, L, 0, 0));
        for (int[] draft : new int[][] {{4}, {3}, {2}, {L, EQ, 0, 0}, {APP, 3, 4}}) {
            refuses("tactic: EQMP UNFIT, not of TRUTHS", after(aim(0), reads(draft)), tactic(EQMP, 1), UNFIT);
        }
        for (int[] draft : new int[][] {{1}, {APP, 2, 0}, {EQ, 4, 5}}) {
            takes("tactic: EQMP of TRUTHS", after(aim(0), reads(draft)), tactic(EQMP, 1), 2);
        }
    }

    private static void combUnfit() {
        unfit(COMB, 0, row(0), row(APP, 2, 0), row(EQ, 4, 5), row(EQ, APP, 3, 4, 5), row(EQ, 5, APP, 3, 4), row(EQ, L, APP, 3, 4, APP, L, 3, 4),
            row(EQ, EQ, 2, 2, APP, 2, 0), row(EQ, APP, 2, 0, EQ, 2, 2), row(EQ, APP, L, 4, 0, APP, L, 4, 5),
            row(EQ, APP, L, 4, 5, APP, L, 4, 0), row(EQ, L, APP, 3, 4, L, APP, 3, 4));
        takes("tactic: COMB, functions of the same TYPE", aim(EQ, APP, L, 4, 5, APP, 3, 6), tactic(COMB, 0), 2);
        takes("tactic: COMB of the same side twice", aim(EQ, APP, 3, 4, APP, 3, 4), tactic(COMB, 0), 2);
    }

    private static void absUnfit() {
        unfit(ABS, 6, row(0), row(EQ, 4, 5), row(EQ, 3, L, 4), row(EQ, L, 4, 3), row(EQ, APP, 3, 4, 5), row(APP, L, EQ, 4, 4, 4),
            row(EQ, L, 6, L, 5), row(EQ, L, 5, L, 6), row(EQ, L + 5, 6, L + 6, 6));
        Run things = aim(EQ, L + 7, 4, L + 7, 5), truths = aim(EQ, L + 7, APP, 2, 7, L + 7, 0), functions = aim(EQ, L + 7, APP, 7, 4, L + 7, 5);
        for (int v : new int[] {0, 1, 2, 3}) refuses("tactic: ABS UNFIT, NAME " + v + " for THINGS", things, tactic(ABS, v), UNFIT);
        for (int v : new int[] {4, 5}) refuses("tactic: ABS UNFIT, NAME " + v + " is in it", things, tactic(ABS, v), UNFIT);
        for (int v : new int[] {6, 7}) takes("tactic: ABS with NAME " + v, things, tactic(ABS, v), 1);
        for (int v : new int[] {0, 2, 3, 4, 7}) refuses("tactic: ABS UNFIT, NAME " + v + " for TRUTHS", truths, tactic(ABS, v), UNFIT);
        takes("tactic: ABS with a NAME of TRUTHS", truths, tactic(ABS, 1), 1);
        for (int v : new int[] {0, 2, 4, 6}) refuses("tactic: ABS UNFIT, NAME " + v + " for FUNCTIONS", functions, tactic(ABS, v), UNFIT);
        takes("tactic: ABS with a NAME of FUNCTIONS", functions, tactic(ABS, 3), 1);
        refuses("tactic: ABS UNFIT, APP of two LAMs", aim(APP, L + 7, EQ, 7, 7, L + 7, 7), tactic(ABS, 3), UNFIT);
        takes("tactic: ABS of EQ of two LAMs on FUNCTIONS", aim(EQ, L + 7, EQ, 7, L, 0, L + 7, EQ, 7, 7), tactic(ABS, 3), 1);
        takes("tactic: ABS, a variable is no NAME", aim(EQ, L + 7, 7, L + 7, 4), tactic(ABS, 7), 1);
        // DEDUCT twice: EQ 4 5 is the first HYPOTHESIS, EQ 6 6 the second, and the GOAL is EQ of LAMs.
        Run two = after(aim(EQ, EQ, EQ, L, 0, L, 0, EQ, 6, 6, EQ, 4, 5), does(tactic(DEDUCT, 0), tactic(DEDUCT, 0)));
        takes("two HYPOTHESES", two, open(0, 1), 2);
        for (int v : new int[] {4, 5, 6}) refuses("tactic: ABS UNFIT, NAME " + v + " is in H", two, tactic(ABS, v), UNFIT);
        takes("tactic: ABS, a NAME that is not in H", two, tactic(ABS, 7), 3);
    }

    private static void betaUnfit() {
        unfit(BETA, 0, row(0), row(APP, L, 0, 0), row(EQ, 4, 4), row(EQ, APP, 3, 4, 4), row(EQ, 4, APP, L, 0, 4), row(EQ, APP, L, 0, 4, 5),
            row(EQ, APP, L, 0, 4, APP, L, 0, 4), row(EQ, APP, L, 4, 5, 5), row(EQ, L, 4, L, 4), row(EQ, APP, L, 0, 4, APP, 3, 4),
            row(EQ, APP, APP, L, 0, 3, 4, APP, 3, 4), row(EQ, APP, L + 4, L + 5, 4, 6, L + 5, 5));
        // What BETA gives would have the same SYMBOLS, with a variable of THINGS, not TRUTHS.
        unfit(BETA, 0, row(EQ, APP, L + 4, APP, L + 5, 4, 4, 6, APP, L + 5, 6, 0));
        // What BETA gives would be too long, so the GOAL is not what it gives.
        unfit(BETA, 0, join(row(EQ, APP, L + 6, EQ, EQ, 6, 6, EQ, 6, 6), thing(9), row(0)));
        takes("tactic: BETA", aim(EQ, APP, L, 0, 4, 4), tactic(BETA, 0), 0);
        takes("tactic: BETA, not in its body", aim(EQ, APP, L, 5, 4, 5), tactic(BETA, 0), 0);
        takes("tactic: BETA of 24 SYMBOLS", aim(join(row(EQ, APP, L + 7, APP, 3, 7), thing(8), row(APP, 3), thing(8))), tactic(BETA, 0), 0);
    }

    private static void deductUnfit() {
        unfit(DEDUCT, 0, row(0), row(APP, 2, 0), row(EQ, 4, 5), row(EQ, 2, 2), row(EQ, L, 0, L, 0), row(EQ, APP, 3, 4, 5));
        takes("tactic: DEDUCT", aim(EQ, 0, 1), tactic(DEDUCT, 0), 2);
        takes("tactic: DEDUCT of EQ", aim(EQ, EQ, 4, 5, 0), tactic(DEDUCT, 0), 2);
    }

    private static void exactUnfit() {
        Run other = after(aim(EQ, 4, 5), reads(row(4)), does(rule(REFL, 1, 0, 0)));
        refuses("tactic: EXACT UNFIT, another CONCLUSION", other, tactic(EXACT, 0), UNFIT);
        Run assumed = after(aim(EQ, 4, 5), does(rule(ASSUME, 0, 0, 0)));
        refuses("tactic: EXACT UNFIT, a HYPOTHESIS is not in H", assumed, tactic(EXACT, 0), UNFIT);
        // EQMP of EQ 0 1 and 0: 1, with two HYPOTHESES; one of them is in H, then the other one, then both.
        Run one = x -> {
            names(x);
            x.rule(EQMP, x.rule(ASSUME, read(x, EQ, 0, 1), 0, 0), x.rule(ASSUME, read(x, 0), 0, 0), 0);
        };
        Run first = after(one, x -> x.goal(read(x, EQ, 1, EQ, 0, 1)), does(tactic(DEDUCT, 0)));
        refuses("tactic: EXACT UNFIT, the second HYPOTHESIS is not in H", first, tactic(EXACT, 2), UNFIT);
        Run second = after(one, x -> x.goal(read(x, EQ, 1, 0)), does(tactic(DEDUCT, 0)));
        refuses("tactic: EXACT UNFIT, the first HYPOTHESIS is not in H", second, tactic(EXACT, 2), UNFIT);
        Run both = after(one, x -> x.goal(read(x, EQ, EQ, 1, 0, EQ, 0, 1)), does(tactic(DEDUCT, 0), tactic(DEDUCT, 0)));
        takes("tactic: EXACT, both are in H", both, tactic(EXACT, 2), 2);
        takes("tactic: EXACT, H has more", after(firstOfTwo(), does(rule(ASSUME, 2, 0, 0))), tactic(EXACT, 0), 2);
        Run unneeded = after(aim(EQ, EQ, 4, 4, 0), x -> x.rule(REFL, read(x, 4), 0, 0), does(tactic(DEDUCT, 0)));
        takes("tactic: EXACT, none of H is needed", unneeded, tactic(EXACT, 0), 1);
    }

    /** What a refused call wrote is not taken for a part of the TERM that is made next: here NAME 1, behind a refused RULE. */
    private static void refusedRuleLeavesNothing() {
        int[][] drafts = {{0}, {APP, 2, 0}, {L, 4}, {APP, L, 0, 4}};
        int[][] tactics = {{REFL, 0}, {TRANS, 0}, {DEDUCT, 0}, {COMB, 0}, {ABS, 6}, {BETA, 0}};
        for (int[] draft : drafts) {
            for (int kind : new int[] {REFL, BETA}) {
                Run full = after(Edges::names, reads(row(0), draft), assumeUpTo(40, 0));
                Run before = after(full, x -> x.rule(kind, x.count(0) - 1, 0, 0), x -> x.goal(read(x, 1)));
                for (int[] one : tactics) refuses("tactic: " + one[0] + " UNFIT of a NAME", before, tactic(one[0], one[1]), UNFIT);
            }
        }
        // TRANS is FULL of GOALS, so that EQ of 0 and APP 2 0 is not made.
        Run crowd = after(crowd(29, row(0), row(1)), reads(row(APP, 2, 0)), does(x -> x.tactic(TRANS, x.count(0) - 1)));
        Run assumed = after(crowd, x -> x.rule(ASSUME, read(x, 1), 0, 0), does(rule(ASSUME, 0, 0, 0)));
        refuses("rule: EQMP UNFIT of a NAME", assumed, rule(EQMP, 0, 1, 0), UNFIT);
    }

    // BIG as in rule

    private static void symbolsBig() {
        Call last = x -> x.tactic(TRANS, x.count(0) - 1);
        takes("tactic: TRANS, the first GOAL has 24", after(aim(eq(thing(11), row(6))), reads(thing(12))), last, 2);
        refuses("tactic: TRANS BIG, the first GOAL has 25", after(aim(eq(thing(11), row(6))), reads(thing(13))), last, BIG);
        refuses("tactic: TRANS BIG, the first GOAL has 25 of 12", after(aim(eq(thing(12), row(6))), reads(thing(12))), last, BIG);
        takes("tactic: TRANS, the second GOAL has 24", after(aim(eq(row(6), thing(11))), reads(thing(12))), last, 2);
        refuses("tactic: TRANS BIG, the second GOAL has 25", after(aim(eq(row(6), thing(11))), reads(thing(13))), last, BIG);
        takes("tactic: TRANS, both have 24", after(aim(eq(thing(11), thing(11))), reads(thing(12))), last, 2);
        refuses("tactic: TRANS BIG, both have 25", after(aim(eq(thing(11), thing(11))), reads(thing(13))), last, BIG);
        refuses("tactic: TRANS BIG, 24 alone", after(aim(EQ, 4, 5), reads(thing(24))), last, BIG);
        Call pass = x -> x.tactic(EQMP, x.count(0) - 1);
        takes("tactic: EQMP of 24", after(aim(truth(11)), reads(truth(12))), pass, 2);
        refuses("tactic: EQMP BIG of 25", after(aim(truth(11)), reads(truth(13))), pass, BIG);
        refuses("tactic: EQMP BIG of 25, the GOAL is longer", after(aim(truth(13)), reads(truth(11))), pass, BIG);
        takes("tactic: EQMP of 24, the GOAL is longest", after(aim(truth(22)), reads(row(0))), pass, 2);
        refuses("tactic: EQMP BIG of 25, the GOAL is longest", after(aim(truth(23)), reads(row(0))), pass, BIG);
        int[] longest = eq(join(row(APP, 2), truth(9)), join(row(APP, 2), truth(10)));
        takes("tactic: COMB and DEDUCT of 24 make nothing longer", aim(longest), tactic(COMB, 0), 2);
        takes("tactic: DEDUCT of 24", aim(longest), tactic(DEDUCT, 0), 2);
    }

    private static void hypothesesBig() {
        for (int n = 1; n < 7; n++) {
            takes("so many HYPOTHESES: " + n, assuming(n), open(0, 1), n);
            takes("so many GOALS", assuming(n), count(2), 4 * n + 1);
        }
        Run five = after(assuming(5), does(tactic(EQMP, 8))), six = after(assuming(6), does(tactic(EQMP, 8)));
        takes("tactic: DEDUCT, 6 HYPOTHESES", five, tactic(DEDUCT, 0), 13);
        takes("tactic: DEDUCT, the first GOAL has 6", after(five, does(tactic(DEDUCT, 0))), open(0, 1), 6);
        takes("tactic: DEDUCT, the second GOAL has 6", after(five, does(tactic(DEDUCT, 0))), open(1, 1), 6);
        refuses("tactic: DEDUCT BIG, 7 HYPOTHESES in both GOALS", six, tactic(DEDUCT, 0), BIG);
        // The GOAL is EQ s t: s is in H, t is not.
        refuses("tactic: DEDUCT BIG, 7 HYPOTHESES in the first GOAL", after(assuming(6), does(tactic(EQMP, 3))), tactic(DEDUCT, 0), BIG);
        // With EQMP of the GOAL itself, DEDUCT puts it into H: t is in H, s is not.
        Run itself = after(assuming(5), does(tactic(EQMP, 5), tactic(DEDUCT, 0)));
        takes("the GOAL is in H", itself, x -> x.open(0, 7) - x.open(0, 0), 0);
        refuses("tactic: DEDUCT BIG, 7 HYPOTHESES in the second GOAL", after(itself, does(tactic(EQMP, 8))), tactic(DEDUCT, 0), BIG);
        takes("tactic: DEDUCT, both are in H", after(itself, does(tactic(EQMP, 2))), tactic(DEDUCT, 0), 15);
        takes("tactic: other TACTICS keep 6", assuming(6), tactic(EQMP, 8), 14);
        takes("tactic: the GOALS that EQMP leaves have 6", six, open(1, 1), 6);
        takes("tactic: TRANS keeps 6", after(six, does(tactic(TRANS, 9))), open(1, 1), 6);
    }

    // FULL if there would be more than 64 TERMS, or more than 30 GOALS (open or not)

    private static void full(String name, Run last, Run first, Call call, int due) {
        takes("tactic: " + name + ", no more than 30 GOALS", last, call, due);
        takes("tactic: " + name + " makes 30 GOALS", after(last, does(call)), count(2), 30);
        refuses("tactic: " + name + " FULL, more than 30 GOALS", first, call, FULL);
    }

    private static void goalsFull() {
        takes("28 GOALS", crowd(28, row(4), row(5)), count(2), 28);
        takes("29 GOALS", crowd(29, row(4), row(5)), count(2), 29);
        takes("30 GOALS", crowd(30, row(4), row(5)), count(2), 30);
        takes("one is open", crowd(30, row(4), row(5)), count(3), 1);
        full("TRANS", crowd(28, row(4), row(5)), crowd(29, row(4), row(5)), tactic(TRANS, 0), 2);
        full("COMB", crowd(28, row(APP, 3, 4), row(APP, 3, 5)), crowd(29, row(APP, 3, 4), row(APP, 3, 5)), tactic(COMB, 0), 2);
        full("DEDUCT", crowd(28, row(0), row(1)), crowd(29, row(0), row(1)), tactic(DEDUCT, 0), 2);
        full("EQMP", crowd(28, row(0), row(1)), crowd(29, row(0), row(1)), tactic(EQMP, 0), 2);
        full("ABS", crowd(29, row(L, 4), row(L, 5)), crowd(30, row(L, 4), row(L, 5)), tactic(ABS, 6), 1);
        for (int kind : new int[] {TRANS, EQMP, DEDUCT}) {
            refuses("tactic: FULL, two more than 30, " + kind, crowd(30, row(0), row(1)), tactic(kind, 0), FULL);
        }
        takes("tactic: REFL with 30 GOALS", crowd(30, row(4), row(4)), tactic(REFL, 0), 0);
        takes("tactic: ASSUME with 30 GOALS", crowdAssuming(30), tactic(ASSUME, 0), 1);
        takes("30 GOALS with one HYPOTHESIS", crowdAssuming(30), count(2), 30);
        takes("tactic: BETA with 30 GOALS", crowd(30, row(APP, L, 0, 4), row(4)), tactic(BETA, 0), 0);
        takes("tactic: EXACT with 30 GOALS", after(crowd(30, row(4), row(4)), does(rule(REFL, 0, 0, 0))), tactic(EXACT, 0), 0);
        takes("tactic: after undo there is room again", after(crowd(30, row(4), row(5)), does(Desk::undo, Desk::undo)), tactic(TRANS, 0), 2);
        takes("tactic: open or not, all were open", x -> {
            names(x);
            int t = read(x, 4);
            x.goal(read(x, EQ, 4, 4));
            for (int i = 0; i < 14; i++) x.tactic(TRANS, t);
        }, count(3), 15);
        refuses("tactic: FULL, all are open", x -> {
            names(x);
            int t = read(x, 4);
            x.goal(read(x, EQ, 4, 4));
            for (int i = 0; i < 14; i++) x.tactic(TRANS, t);
        }, tactic(TRANS, 0), FULL);
    }

    private static void termsFull() {
        int[] fresh = {0, 0, 2, 2, 1, 0, 1, 2, 0};
        for (Case one : cases()) {
            int room = 64 - fresh[one.kind];
            takes("tactic: " + one.name + " to 64 TERMS", after(one.before, fill(room)), one.call(), one.due);
            takes("tactic: " + one.name + " makes 64 TERMS", after(one.before, fill(room), does(one.call())), count(0), 64);
            for (int terms = room + 1; terms <= 64; terms++) {
                refuses("tactic: " + one.name + " FULL, " + terms + " TERMS", after(one.before, fill(terms)), one.call(), FULL);
            }
            Run there = after(one.before, does(one.call(), Desk::undo), fill(64));
            takes("tactic: " + one.name + ", 64 TERMS, none new", there, one.call(), one.due);
        }
        // EQ 6 5 is there, so that one TERM is new, in the first GOAL or in the second one.
        Run first = after(aim(EQ, APP, 3, 4, 5), reads(row(EQ, 6, 5), row(6))), second = after(aim(EQ, 5, APP, 3, 4), reads(row(EQ, 5, 6), row(6)));
        for (Run run : new Run[] {first, second}) {
            takes("tactic: TRANS, one TERM to 64", after(run, fill(63)), tactic(TRANS, 2), 2);
            refuses("tactic: TRANS FULL, one TERM to 65", after(run, fill(64)), tactic(TRANS, 2), FULL);
        }
    }

    private static void tacticTestsInOrder() {
        Run truth = after(aim(0), reads(thing(13)));
        refuses("tactic: REFUSED before UNFIT, TRANS", truth, tactic(TRANS, 2), REFUSED);
        refuses("tactic: REFUSED before UNFIT, ABS", truth, tactic(ABS, 8), REFUSED);
        refuses("tactic: REFUSED before UNFIT, EXACT", truth, tactic(EXACT, 0), REFUSED);
        refuses("tactic: UNFIT before BIG, TRANS of no EQ", truth, tactic(TRANS, 1), UNFIT);
        refuses("tactic: UNFIT before BIG, TRANS of another TYPE", after(aim(eq(thing(11), row(6))), reads(truth(13))), tactic(TRANS, 1), UNFIT);
        refuses("tactic: UNFIT before BIG, EQMP", after(aim(truth(11)), reads(thing(13))), tactic(EQMP, 1), UNFIT);
        refuses("tactic: UNFIT before BIG, DEDUCT", assuming(6), tactic(DEDUCT, 0), UNFIT);
        refuses("tactic: REFUSED before BIG", after(aim(eq(thing(11), row(6))), reads(thing(13))), tactic(TRANS, 2), REFUSED);
        Run crowd = after(crowd(29, row(4), row(5)), reads(row(0), thing(23)));
        refuses("tactic: REFUSED before FULL, 29 GOALS", crowd, x -> x.tactic(TRANS, x.count(0)), REFUSED);
        refuses("tactic: REFUSED before FULL, no kind", crowd, tactic(9, 0), REFUSED);
        refuses("tactic: UNFIT before FULL, TRANS", crowd, x -> x.tactic(TRANS, x.count(0) - 2), UNFIT);
        refuses("tactic: UNFIT before FULL, COMB", crowd, tactic(COMB, 0), UNFIT);
        refuses("tactic: UNFIT before FULL, EQMP", crowd, tactic(EQMP, 0), UNFIT);
        refuses("tactic: UNFIT before FULL, DEDUCT", crowd, tactic(DEDUCT, 0), UNFIT);
        refuses("tactic: UNFIT before FULL, ABS", crowd(30, row(L, 4), row(L, 5)), tactic(ABS, 4), UNFIT);
        refuses("tactic: BIG before FULL, 29 GOALS", crowd, x -> x.tactic(TRANS, x.count(0) - 1), BIG);
        Run many = after(aim(eq(thing(11), row(6))), reads(thing(13), row(0)), fill(64));
        refuses("tactic: REFUSED before FULL, 64 TERMS", many, tactic(TRANS, 64), REFUSED);
        refuses("tactic: UNFIT before FULL, 64 TERMS", many, tactic(TRANS, 2), UNFIT);
        refuses("tactic: BIG before FULL, 64 TERMS", many, tactic(TRANS, 1), BIG);
        // The first GOAL would be a new TERM, the second one is too long.
        Run later = after(aim(eq(row(6), thing(11))), reads(thing(13)), fill(64));
        refuses("tactic: BIG of the second GOAL before FULL of the first", later, tactic(TRANS, 1), BIG);
        Run six = after(assuming(6), does(tactic(EQMP, 8), tactic(TRANS, 8), tactic(REFL, 0)));
        takes("29 GOALS, 6 HYPOTHESES", six, x -> x.count(2) * 10 + x.open(0, 1), 296);
        refuses("tactic: 7 HYPOTHESES before FULL, 29 GOALS", six, tactic(DEDUCT, 0), BIG);
        refuses("tactic: 7 HYPOTHESES before FULL, 64 TERMS", after(assuming(6), does(tactic(EQMP, 8)), fill(64)), tactic(DEDUCT, 0), BIG);
    }

    // 14: undo

    private static void undoRefuses() {
        Run fresh = aim(EQ, APP, 3, 4, APP, 3, 5);
        refuses("undo: REFUSED, no TACTIC since goal", fresh, Desk::undo, REFUSED);
        refuses("undo: REFUSED, none that was not refused", after(fresh, does(tactic(REFL, 0), tactic(9, 0), tactic(TRANS, 7))), Desk::undo, REFUSED);
        refuses("undo: REFUSED, the only one is taken back", after(fresh, does(tactic(COMB, 0), Desk::undo)), Desk::undo, REFUSED);
        refuses("undo: REFUSED, both are taken back", after(fresh, does(tactic(COMB, 0), tactic(REFL, 0), Desk::undo, Desk::undo)), Desk::undo, REFUSED);
        refuses("undo: REFUSED, a TACTIC before goal", after(fresh, does(tactic(COMB, 0), goal(0))), Desk::undo, REFUSED);
        takes("undo: a TACTIC before a goal that was refused", after(fresh, does(tactic(COMB, 0), goal(-1), goal(99))), Desk::undo, 1);
        Run closed = after(aim(EQ, 4, 4), does(tactic(REFL, 0), Desk::close));
        refuses("undo: REFUSED after close", closed, Desk::undo, REFUSED);
        refuses("undo: REFUSED, no TACTIC since the next goal", after(closed, does(goal(0))), Desk::undo, REFUSED);
        takes("undo: after a close that was refused", after(fresh, does(tactic(COMB, 0), Desk::close)), Desk::undo, 1);
        refuses("undo: REFUSED, repeat did none", after(aim(EQ, 4, 5), x -> x.repeat(8)), Desk::undo, REFUSED);
        refuses("undo: REFUSED, without GOALS", after(Edges::names, reads(row(EQ, 4, 4))), Desk::undo, REFUSED);
    }

    private static void undoTakesBack() {
        for (Case one : cases()) {
            Run once = after(one.before, does(one.call(), Desk::undo));
            Desk x = new Desk();
            one.before.on(x);
            int open = x.count(3), goals = x.count(2);
            takes("undo: of " + one.name, after(one.before, does(one.call())), Desk::undo, open);
            takes("undo: the GOALS that " + one.name + " left are gone", once, count(2), goals);
            same("undo: as if " + one.name + " had not been", once, after(once, does(one.call(), Desk::undo)));
            for (int what = 0; what < 3; what++) {
                takes("undo: the GOAL of " + one.name + " is first", once, open(0, what), x.open(0, what));
            }
            Desk y = new Desk();
            after(one.before, does(one.call())).on(y);
            takes("undo: TERMS that " + one.name + " made stay", once, count(0), y.count(0));
        }
        Run thirty = crowd(30, row(4), row(5));
        takes("undo: 29 TACTICS", thirty, x -> {
            int done = 0;
            while (done < 40 && x.undo() >= 0) done++;
            return done * 100 + x.count(2) * 10 + x.count(3);
        }, 2911);
        takes("undo: of a TACTIC of repeat", after(aim(EQ, APP, 3, 4, APP, 3, 5), x -> x.repeat(2)), Desk::undo, 2);
    }

    // 15: repeat

    /** COMB and REFL five times, then EQ 4 5 is left: ten TACTICS. */
    private static final int[] TEN = {EQ, APP, 3, APP, 3, APP, 3, APP, 3, APP, 3, 4, APP, 3, APP, 3, APP, 3, APP, 3, APP, 3, 5};

    private static void repeatRefuses() {
        for (int n : new int[] {-8, -1, 0, 9, 10, LEAST, MOST}) {
            refuses("repeat: REFUSED if n is " + n, aim(TEN), x -> x.repeat(n), REFUSED);
            refuses("repeat: REFUSED if n is " + n + ", without GOALS", NEW, x -> x.repeat(n), REFUSED);
            refuses("repeat: REFUSED if n is " + n + ", none is open", after(aim(EQ, 4, 4), does(tactic(REFL, 0))), x -> x.repeat(n), REFUSED);
        }
        for (int n = 1; n < 9; n++) {
            int m = n;
            takes("repeat: n times " + n, aim(TEN), x -> x.repeat(m), n);
            takes("repeat: no more than " + n, after(aim(TEN), x -> x.repeat(m)), count(2), 1 + (n + 1) / 2 * 2);
        }
    }

    private static void repeatEnds() {
        takes("repeat: it ends where all are refused", after(aim(TEN), x -> x.repeat(8)), x -> x.repeat(8), 2);
        takes("repeat: just as many as go", after(aim(TEN), x -> x.repeat(8)), x -> x.repeat(2), 2);
        takes("repeat: fewer than go", after(aim(TEN), x -> x.repeat(8)), x -> x.repeat(1), 1);
        Run ended = after(aim(TEN), x -> x.repeat(8), x -> x.repeat(8));
        takes("repeat: none goes", ended, x -> x.repeat(8), 0);
        same("repeat: where none goes nothing changes", ended, after(ended, x -> x.repeat(8)));
        Run all = aim(EQ, APP, 3, 4, APP, 3, 4);
        takes("repeat: it ends where none is open", after(aim(EQ, EQ, 4, 5, EQ, 4, 5), does(tactic(DEDUCT, 0))), x -> x.repeat(8), 2);
        takes("repeat: one goes", all, x -> x.repeat(8), 1);
        Run done = after(all, does(tactic(REFL, 0)));
        takes("repeat: none is open", done, x -> x.repeat(8), 0);
        same("repeat: where none is open nothing changes", done, after(done, x -> x.repeat(8)));
        takes("repeat: after close", after(done, does(Desk::close)), x -> x.repeat(8), 0);
        Run noRoom = crowd(29, row(APP, 3, 4), row(APP, 3, 5));
        takes("repeat: COMB is refused, FULL of GOALS", noRoom, x -> x.repeat(8), 0);
        same("repeat: where COMB is FULL nothing changes", noRoom, after(noRoom, x -> x.repeat(8)));
        takes("repeat: COMB to 30 GOALS", crowd(28, row(APP, 3, 4), row(APP, 3, 5)), x -> x.repeat(8), 2);
        Run terms = after(aim(EQ, APP, 3, APP, 3, 4, APP, L, 0, 5), fill(63));
        takes("repeat: COMB is refused, FULL of TERMS", terms, x -> x.repeat(8), 0);
        same("repeat: where COMB is FULL of TERMS nothing changes", terms, after(terms, x -> x.repeat(8)));
    }

    /** The RULE of the first THEOREM that close makes tells which TACTIC was done first. */
    private static void firstOf(String what, Run before, int kind) {
        takes("repeat: " + what, after(before, x -> x.repeat(1)), x -> {
            x.repeat(8);
            x.close();
            return x.theorem(0, 2);
        }, kind);
    }

    private static void repeatInOrder() {
        firstOf("REFL before ASSUME", after(aim(EQ, EQ, 4, 4, EQ, 4, 4), does(tactic(DEDUCT, 0))), REFL);
        firstOf("REFL before ABS", aim(EQ, L, 4, L, 4), REFL);
        takes("repeat: REFL before ABS leaves none", after(aim(EQ, L, 4, L, 4), x -> x.repeat(1)), count(3), 0);
        takes("repeat: REFL before COMB leaves none", after(aim(EQ, APP, 3, 4, APP, 3, 4), x -> x.repeat(1)), count(3), 0);
        int[] beta = {EQ, APP, L, APP, 3, 0, 4, APP, 3, 4};
        firstOf("ASSUME before BETA", after(aim(join(row(EQ), beta, beta)), does(tactic(DEDUCT, 0))), ASSUME);
        firstOf("BETA before COMB", aim(beta), BETA);
        takes("repeat: BETA before COMB leaves none", after(aim(beta), x -> x.repeat(1)), count(3), 0);
        int[] lambdas = {EQ, L, 4, L, 5}, uses = {EQ, APP, 3, 4, APP, 3, 5};
        firstOf("ASSUME before ABS", after(aim(join(row(EQ), lambdas, lambdas)), does(tactic(DEDUCT, 0))), ASSUME);
        firstOf("ASSUME before COMB", after(aim(join(row(EQ), uses, uses)), does(tactic(DEDUCT, 0))), ASSUME);
        takes("repeat: no TRANS, EQMP or DEDUCT", aim(EQ, 0, 1), x -> x.repeat(8), 0);
        // DEDUCT of EQ 4 4 and EQ 5 5 is THEOREM 2, without HYPOTHESES.
        Run exact = after(Edges::names, reads(row(4), row(5)), does(rule(REFL, 0, 0, 0), rule(REFL, 1, 0, 0), rule(DEDUCT, 0, 1, 0), goal(4)));
        takes("repeat: no EXACT", exact, x -> x.repeat(8), 0);
        takes("repeat: where EXACT goes", exact, tactic(EXACT, 2), 0);
    }

    private static void repeatLeastName() {
        Call abs = x -> {
            x.repeat(1);
            return x.term(x.open(0, 0), 2);
        };
        takes("repeat: the least NAME of the TYPE", aim(EQ, L + 7, 7, L + 7, APP, 3, 7), abs, 16 + 8);
        takes("repeat: the least NAME that is not in it", aim(EQ, L + 7, EQ, 7, 4, L + 7, EQ, 7, 5), abs, 16 + 32 + 64);
        takes("repeat: the last NAME", aim(EQ, L + 7, EQ, EQ, 7, 4, EQ, 5, 6, L + 7, EQ, EQ, 7, 4, EQ, 5, 5), abs, 16 + 32 + 64 + 128);
        for (int v = 0; v < 8; v++) {
            // The variable goes from TRUTHS to TRUTHS, as NAME v alone does.
            int only = v;
            Run one = x -> {
                x.declare(only, 48);
                x.goal(read(x, EQ, L, APP, 0, EQ, L, 0, L, 0, L, EQ, L, 0, L, 0));
            };
            takes("repeat: NAME " + v + " alone", one, abs, 1 << v);
        }
        Run noName = aim(EQ, L + 3, EQ, EQ, 3, 4, EQ, 5, 6, L + 3, EQ, EQ, 3, 4, EQ, 5, 7);
        takes("repeat: no NAME goes", noName, x -> x.repeat(8), 0);
        same("repeat: where no NAME goes nothing changes", noName, after(noName, x -> x.repeat(8)));
        Run first = x -> x.goal(read(x, EQ, L, 0, L, APP, L, 0, 0));
        takes("repeat: NAME 0", first, abs, 1);
        Run two = after(aim(EQ, EQ, EQ, L, 0, L, APP, L, 0, 0, EQ, 5, 5, EQ, 4, 4), does(tactic(DEDUCT, 0), tactic(DEDUCT, 0)));
        takes("repeat: the least NAME that is not in H", two, abs, 64);
    }

    // 16: open

    private static void openRefuses() {
        Run three = after(aim(EQ, EQ, 0, 1, EQ, 1, 0), does(tactic(DEDUCT, 0), tactic(DEDUCT, 0)));
        takes("three are open", three, count(3), 3);
        for (int k : new int[] {-1, 3, 4, 29, 30, LEAST, MOST}) {
            for (int what = 0; what < 4; what++) refuses("open: REFUSED for GOAL " + k, three, open(k, what), REFUSED);
        }
        for (int what : new int[] {-1, 4, 5, 7, 8, LEAST, MOST}) {
            refuses("open: REFUSED for what " + what + ", two HYPOTHESES", three, open(0, what), REFUSED);
        }
        for (int what : new int[] {-2, 3, 4, 8}) refuses("open: REFUSED for what " + what + ", one HYPOTHESIS", three, open(2, what), REFUSED);
        for (int what : new int[] {-1, 2, 3, 8}) refuses("open: REFUSED for what " + what + ", no HYPOTHESES", aim(0), open(0, what), REFUSED);
        // TERMS: the GOAL 0, EQ 1 0 is 1, EQ 0 1 is 2, then NAME 1 is 3 and NAME 0 is 4.
        int[][] due = {{4, 2, 1, 3}, {3, 2, 1, 4}, {1, 1, 2}};
        for (int k = 0; k < 3; k++) {
            for (int what = 0; what < due[k].length; what++) takes("open: GOAL " + k + " what " + what, three, open(k, what), due[k][what]);
        }
        Run six = assuming(6);
        for (int j = 0; j < 6; j++) takes("open: HYPOTHESIS " + j + " of 6", six, open(0, 2 + j), j);
        for (int what : new int[] {8, 9, LEAST, MOST}) refuses("open: REFUSED for what " + what + ", 6 HYPOTHESES", six, open(0, what), REFUSED);
        takes("open: the last GOAL of 13", six, open(12, 1), 0);
        refuses("open: REFUSED for GOAL 13 of 13", six, open(13, 1), REFUSED);
        Run done = after(aim(EQ, 4, 4), does(tactic(REFL, 0)));
        refuses("open: REFUSED, none is open", done, open(0, 0), REFUSED);
        refuses("open: REFUSED after close", after(done, does(Desk::close)), open(0, 0), REFUSED);
        Run all = x -> {
            names(x);
            int t = read(x, 4);
            x.goal(read(x, EQ, 4, 4));
            for (int i = 0; i < 14; i++) x.tactic(TRANS, t);
        };
        takes("open: the last GOAL of 15", all, open(14, 0), 1);
        refuses("open: REFUSED for GOAL 15 of 15", all, open(15, 0), REFUSED);
    }

    // 17: close

    private static void closeRefuses() {
        Run terms = after(Edges::names, reads(row(EQ, 4, 4), row(4)), does(rule(REFL, 1, 0, 0)));
        refuses("close: REFUSED, no GOALS", terms, Desk::close, REFUSED);
        refuses("close: REFUSED, the only GOAL is open", after(terms, does(goal(0))), Desk::close, REFUSED);
        Run trans = after(terms, does(goal(0), tactic(TRANS, 1)));
        refuses("close: REFUSED, two are open", trans, Desk::close, REFUSED);
        refuses("close: REFUSED, one is open", after(trans, does(tactic(REFL, 0))), Desk::close, REFUSED);
        takes("close: none is open", after(trans, does(tactic(REFL, 0), tactic(REFL, 0))), Desk::close, 3);
        refuses("close: REFUSED, one is open again", after(trans, does(tactic(REFL, 0), tactic(REFL, 0), Desk::undo)), Desk::close, REFUSED);
        Run closed = after(terms, does(goal(0), tactic(REFL, 0), Desk::close));
        refuses("close: REFUSED again", closed, Desk::close, REFUSED);
        takes("close: there are no GOALS then", closed, count(2), 0);
        takes("close: none open then", closed, count(3), 0);
        takes("close: EXACT makes none", after(terms, does(goal(0), tactic(EXACT, 0))), Desk::close, 0);
        takes("close: EXACT has that one", after(terms, does(goal(0), tactic(EXACT, 0), Desk::close)), count(1), 1);
        takes("close: there are no GOALS after EXACT", after(terms, does(goal(0), tactic(EXACT, 0), Desk::close)), count(2), 0);
    }

    private static void closeFull() {
        Run terms = after(Edges::names, reads(row(EQ, 4, 4), row(4)), does(rule(REFL, 1, 0, 0)));
        for (int more = 1; more < 4; more += 2) {
            Run proof = more == 1 ? does(goal(0), tactic(REFL, 0)) : does(goal(0), tactic(TRANS, 1), tactic(REFL, 0), tactic(REFL, 0));
            takes("close: " + more + " THEOREMS to 40", after(terms, assumeUpTo(40 - more, 0), proof), Desk::close, 39);
            takes("close: 40 THEOREMS then", after(terms, assumeUpTo(40 - more, 0), proof, does(Desk::close)), count(1), 40);
            for (int there = 41 - more; there <= 40; there++) {
                refuses("close: FULL, " + more + " THEOREMS and " + there, after(terms, assumeUpTo(there, 0), proof), Desk::close, FULL);
            }
        }
        Run exact = does(goal(0), tactic(TRANS, 1), tactic(EXACT, 0), tactic(EXACT, 0));
        takes("close: EXACT makes none, the 40th", after(terms, assumeUpTo(39, 0), exact), Desk::close, 39);
        refuses("close: FULL, one THEOREM and two that are there", after(terms, assumeUpTo(40, 0), exact), Desk::close, FULL);
        takes("close: EXACT alone with 40", after(terms, assumeUpTo(40, 0), does(goal(0), tactic(EXACT, 0))), Desk::close, 0);
        refuses("close: REFUSED before FULL, one is open", after(terms, assumeUpTo(40, 0), does(goal(0))), Desk::close, REFUSED);
        refuses("close: REFUSED before FULL, no GOALS", after(terms, assumeUpTo(40, 0)), Desk::close, REFUSED);
        Run thirty = after(crowd(30, row(4), row(4)), does(tactic(REFL, 0)));
        takes("close: 30 THEOREMS of 30 GOALS", thirty, Desk::close, 29);
        takes("close: 30 THEOREMS to 40", after(thirty, x -> assumeUpTo(10, x.count(0) - 1).on(x)), Desk::close, 39);
        refuses("close: FULL, 30 THEOREMS to 41", after(thirty, x -> assumeUpTo(11, x.count(0) - 1).on(x)), Desk::close, FULL);
    }

    private static void closeMakesNoTerms() {
        for (Case one : cases()) {
            if (one.due != 0) continue;
            Run full = after(one.before, fill(64), does(one.call()));
            takes("close: no TERMS are made, " + one.name, full, x -> x.close() >= 0 ? x.count(0) : -1, 64);
        }
        Run deduct = after(aim(EQ, 0, 0), does(tactic(DEDUCT, 0), tactic(ASSUME, 0), tactic(ASSUME, 0)), fill(64));
        takes("close: DEDUCT with 64 TERMS", deduct, Desk::close, 2);
        takes("close: its HYPOTHESES are gone", after(deduct, does(Desk::close)), theorem(2, 1), 0);
    }
}
