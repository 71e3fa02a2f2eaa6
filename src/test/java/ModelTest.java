import java.util.ArrayList;
import java.util.List;

/** Runs of up to 512 calls, always the same ones, on SequentDesk and on Model: both give the same answers. */
public final class ModelTest {
    private static final int RUNS = 1200;
    /** A draft of 24 tokens and more is the step with the most calls. */
    private static final int MOST_OF_A_STEP = 40;
    private static final String[] TYPES = {"00", "01", "10000", "10101", "10100", "10001", "10110101", "11010001",
        "11000000", "10110110101", "11000110100", "11000010000"};
    private static final int TACTIC = 9, CLOSE = 18, READ = 19, REPEAT = 20, UNDO = 21;
    /** By kind, which answers there are, 0 standing for all that are no refusals (some rare ones are left to the tests of edges). */
    private static final int[][] RULE_ANSWERS = {{0, 1, 5, 6}, {0, 1, 4, 6}, {0, 1, 4, 5, 6}, {0, 1, 4, 5, 6}, {0, 1, 4, 5, 6},
        {0, 1, 4, 5, 6}, {0, 1, 4, 6}, {0, 1, 5, 6}, {0, 1, 4, 5, 6}};
    private static final int[][] TACTIC_ANSWERS = {{0, 1, 4}, {0, 1, 4}, {0, 1, 4, 5, 6}, {0, 1, 4}, {0, 1, 4},
        {0, 1, 4}, {0, 1, 4, 5, 6}, {0, 1, 4, 5, 6}, {0, 1, 4}};
    private static final Check check = new Check();
    private static long seed = 20261115L;

    /** A look at a desk, and what the model says to it. */
    private record Look(String name, int a, int b, int c, Edges.Call call, int due) { }

    private final Desk x = new Desk();
    private final Model m = new Model();
    private final int run;
    /** Some runs have short TERMS of TRUTHS alone, so that HYPOTHESES become many. */
    private final boolean small;
    /** Some runs stay with a GOAL for long, so that GOALS become many. */
    private final boolean stubborn;
    private final List<Edges.Call> calls = new ArrayList<>();
    private final List<String> texts = new ArrayList<>();
    private boolean wrong = false;

    private ModelTest(int run) {
        this.run = run;
        small = run % 4 == 0;
        stubborn = run % 4 == 1;
    }

    public static void main(String[] args) {
        int[][] seen = new int[24][8];
        for (int run = 0; run < RUNS; run++) new ModelTest(run).go(seen);
        for (int kind = 0; kind < 9; kind++) {
            reached("rule " + kind, seen[kind], RULE_ANSWERS[kind]);
            reached("tactic " + kind, seen[TACTIC + kind], TACTIC_ANSWERS[kind]);
        }
        reached("close", seen[CLOSE], new int[] {0, 1, 6});
        reached("read", seen[READ], new int[] {0, 2, 3, 5, 6});
        reached("repeat", seen[REPEAT], new int[] {0, 1});
        reached("undo", seen[UNDO], new int[] {0, 1});
        check.end();
    }

    /** The runs are worth something only if they come to every answer. */
    private static void reached(String call, int[] row, int[] answers) {
        for (int answer : answers) check.isTrue(call + " answered " + (answer == 0 ? "0 or more" : -answer), row[answer] > 0);
    }

    /** 0 to n - 1. */
    private static int pick(int n) {
        seed = seed * 6364136223846793005L + 1442695040888963407L;
        return (int) ((seed >>> 33) % n);
    }

    private static boolean chance(int percent) {
        return pick(100) < percent;
    }

    private int same(String text, Edges.Call call, int want) {
        int got = call.on(x);
        calls.add(call);
        texts.add(text + " = " + got);
        if (got != want && !wrong) tell(texts.size());
        check.due("run " + run + ": " + text, got, want);
        return want;
    }

    private void tell(int calls) {
        wrong = true;
        for (String text : texts.subList(0, calls)) System.out.println("  " + text);
    }

    /** A desk has 512 calls: some are for looks on the way, the others change something. */
    private void go(int[][] seen) {
        declareAll();
        List<Look> halfway = null;
        int half = 0;
        while (x.left() > MOST_OF_A_STEP && !wrong) {
            step(seen);
            lookAround();
            if (halfway == null && x.left() < Desk.MOST_CALLS / 2) {
                halfway = looks();
                half = calls.size();
            }
        }
        if (halfway != null) compare(halfway, half);
        compare(looks(), calls.size());
    }

    /** Looks that the model answers, on as many new desks as they need, each with the first calls of the run behind it. */
    private void compare(List<Look> looks, int first) {
        Desk y = null;
        for (Look look : looks) {
            if (wrong) return;
            if (y == null || y.left() == 0) {
                y = new Desk();
                for (Edges.Call call : calls.subList(0, first)) call.on(y);
            }
            int got = look.call.on(y);
            if (got != look.due) tell(first);
            check.due(look.name, got, look.due, run, look.a, look.b, look.c);
        }
    }

    /** One look on the way, where it could change something by mistake. */
    private void lookAround() {
        if (!chance(15) || wrong) return;
        List<Look> looks = new ArrayList<>();
        lookAtCounts(looks);
        lookAtGoals(looks);
        Look look = looks.get(pick(looks.size()));
        check.due(look.name, look.call.on(x), look.due, run, look.a, look.b, look.c);
    }

    private static void note(int[] row, int answer) {
        row[answer >= 0 ? 0 : -answer]++;
    }

    private void declareAll() {
        int style = pick(4);
        for (int v = 0; v < 8; v++) {
            String type = style == 0 ? TYPES[pick(2)] : style == 1 ? TYPES[pick(5)] : TYPES[pick(TYPES.length)];
            if (style > 1 && v > 4) type = TYPES[pick(2)];
            if (small) type = Model.TRUTHS;
            int number = Model.numberOf(type);
            declare(v, number);
        }
    }

    private void declare(int v, int type) {
        same("declare(" + v + ", " + type + ")", y -> y.declare(v, type), m.declare(v, type));
    }

    private void function(int from, int to) {
        same("function(" + from + ", " + to + ")", y -> y.function(from, to), m.function(from, to));
    }

    private void step(int[][] seen) {
        int what = pick(100);
        if ((small || stubborn) && what >= 60 && what < 66 && !m.open().isEmpty() && chance(80)) what = 70;
        if (what < 30) {
            note(seen[READ], readSome());
        } else if (what < 60) {
            ruleSome(seen);
        } else if (what < 66) {
            int t = pick(m.terms.size() + 1) - (chance(5) ? 1 : 0);
            same("goal(" + t + ")", Edges.goal(t), m.goal(t));
        } else if (what < 84) {
            tacticSome(seen);
        } else if (what < 88) {
            int n = pick(10);
            note(seen[REPEAT], same("repeat(" + n + ")", y -> y.repeat(n), m.repeat(n)));
        } else if (what < 91) {
            note(seen[UNDO], same("undo()", Desk::undo, m.undo()));
        } else if (what < 95) {
            note(seen[CLOSE], same("close()", Desk::close, m.close()));
        } else {
            odd();
        }
    }

    private void odd() {
        int a = pick(4) == 0 ? pick(70) : Model.numberOf("1" + TYPES[pick(TYPES.length)] + TYPES[pick(TYPES.length)]), b = pick(70) - 2;
        function(a, b);
        function(b, a);
        function(pick(1 << 26), 4);
        declare(pick(10) - 1, a);
    }

    // Drafts

    private int readSome() {
        List<Integer> draft = new ArrayList<>();
        String[] called = m.names.clone();
        String wanted = chance(60) ? Model.TRUTHS : m.names[pick(8)];
        write(wanted, called, draft, small ? pick(2) : 2 + pick(4));
        if (chance(20) && !draft.isEmpty()) draft.set(pick(draft.size()), pick(18));
        if (chance(3)) draft.add(pick(18));
        if (chance(10)) scribble(draft);
        while (draft.size() > 27) draft.remove(draft.size() - 1);
        if (!m.draft.isEmpty() || chance(5)) same("clear()", Desk::clear, m.draft.size());
        m.draft.clear();
        for (int t : draft) {
            int due = t < 0 || t > 17 ? -1 : m.draft.size() == 24 ? -6 : m.draft.size() + 1;
            if (due > 0) m.draft.add(t);
            same("token(" + t + ")", y -> y.token(t), due);
        }
        return same("read()", Desk::read, m.read());
    }

    /** A whole draft without a thought of TYPES, mostly of LAMs and variables. */
    private static void scribble(List<Integer> draft) {
        draft.clear();
        int awaited = 1, limit = 3 + pick(20);
        while (awaited > 0) {
            int left = limit - draft.size() - awaited;
            int token = left >= 2 && chance(50) ? 8 + (chance(25) ? 1 : 0) : left >= 1 && chance(60) ? 10 + pick(3) : pick(3);
            draft.add(token);
            awaited += token < 8 ? -1 : token < 10 ? 1 : 0;
        }
    }

    /** Tries to write a PART of a TYPE; where it has run out of fuel it may be of another one. */
    private static void write(String type, String[] called, List<Integer> draft, int fuel) {
        if (fuel > 0 && type.equals(Model.TRUTHS) && chance(55)) {
            draft.add(9);
            String side = chance(30) ? Model.TRUTHS : called[pick(8)];
            write(side, called, draft, fuel - 1);
            if (chance(30)) write(side, called, draft, 0); else write(side, called, draft, fuel - 1);
            return;
        }
        if (type.charAt(0) == '1' && (fuel > 0 || chance(30)) && chance(60)) {
            lambda(Model.from(type), Model.to(type), called, draft, fuel - 1);
            return;
        }
        if (fuel > 0 && chance(35)) {
            String from = called[pick(8)];
            draft.add(8);
            lambda(from, type, called, draft, fuel - 2);
            write(from, called, draft, fuel - 2);
            return;
        }
        int start = pick(8);
        for (int i = 0; fuel > 0 && i < 8; i++) {
            int v = (start + i) % 8;
            if (called[v].charAt(0) == '1' && Model.to(called[v]).equals(type)) {
                draft.add(8);
                draft.add(v);
                write(Model.from(called[v]), called, draft, fuel - 1);
                return;
            }
        }
        for (int i = 0; i < 8; i++) {
            int v = (start + i) % 8;
            if (called[v].equals(type)) {
                draft.add(v);
                return;
            }
        }
        if (type.charAt(0) == '1') lambda(Model.from(type), Model.to(type), called, draft, 0); else draft.add(start);
    }

    private static void lambda(String from, String to, String[] called, List<Integer> draft, int fuel) {
        int v = pick(8);
        String[] inner = called.clone();
        inner[v] = from;
        draft.add(10 + v);
        write(to, inner, draft, fuel);
    }

    // RULES and TACTICS: of some tries, the first one that Model would not refuse as UNFIT

    private void ruleSome(int[][] seen) {
        int kind = pick(9), a = 0, b = 0, c = 0;
        boolean found = false;
        for (int tries = 0; tries < 25 && !found; tries++) {
            a = pick(Math.max(1, (kind == 0 || kind == 1 || kind == 5) ? m.terms.size() : m.thms.size()));
            if (small && chance(50) && kind > 1 && kind != 5) a = mostHypotheses();
            b = kind == 4 || kind == 8 ? pick(8) : pick(Math.max(1, m.thms.size()));
            c = pick(Math.max(1, m.terms.size()));
            int answer = m.rule(kind, a, b, c, false);
            found = answer >= 0 || answer < -4;
        }
        if (chance(5)) a = pick(80) - 2;
        if (chance(5)) b = pick(80) - 2;
        if (chance(5)) c = pick(80) - 2;
        if (chance(1)) kind = pick(30) - 10;
        // Few THEOREMS of the simplest RULES, so that there is room for the others.
        if (kind == 0 && m.thms.size() > 15 && chance(80)) return;
        int want = m.rule(kind, a, b, c, true);
        same("rule(" + kind + ", " + a + ", " + b + ", " + c + ")", Edges.rule(kind, a, b, c), want);
        if (kind >= 0 && kind < 9) note(seen[kind], want);
    }

    private int mostHypotheses() {
        int most = 0;
        for (int p = 1; p < m.thms.size(); p++) {
            if (m.thms.get(p).hyps().size() > m.thms.get(most).hyps().size()) most = p;
        }
        return most;
    }

    private void tacticSome(int[][] seen) {
        int kind = pick(9), arg = 0;
        boolean found = false;
        for (int tries = 0; tries < 25 && !found; tries++) {
            if (tries % 5 == 0) kind = small && chance(80) ? 6 + pick(2) : stubborn && chance(80) ? 2 + pick(3) : pick(9);
            arg = kind == 4 ? pick(8) : kind == 8 ? pick(Math.max(1, m.thms.size())) : pick(Math.max(1, m.terms.size()));
            int answer = m.tactic(kind, arg, false);
            found = answer >= 0 || answer < -4;
        }
        if (chance(4)) arg = pick(80) - 2;
        if (chance(1)) kind = pick(30) - 10;
        int want = m.tactic(kind, arg, true);
        same("tactic(" + kind + ", " + arg + ")", Edges.tactic(kind, arg), want);
        if (kind >= 0 && kind < 9) note(seen[TACTIC + kind], want);
    }

    // Looks

    private List<Look> looks() {
        List<Look> looks = new ArrayList<>();
        lookAtCounts(looks);
        for (int t = -1; t <= m.terms.size(); t++) lookAtTerm(looks, t);
        for (int p = -1; p <= m.thms.size(); p++) lookAtTheorem(looks, p);
        lookAtGoals(looks);
        return looks;
    }

    private void lookAtCounts(List<Look> looks) {
        for (int what = -1; what < 6; what++) looks.add(new Look("count", what, 0, 0, Edges.count(what), m.count(what)));
    }

    private void lookAtTerm(List<Look> looks, int t) {
        if (t < 0 || t >= m.terms.size()) {
            looks.add(new Look("term", t, 0, 0, Edges.term(t, 0), -1));
            looks.add(new Look("symbol", t, 0, 0, Edges.symbol(t, 0, 0), -1));
            return;
        }
        Model.T tree = m.terms.get(t);
        List<Integer> symbols = new ArrayList<>();
        List<String> types = new ArrayList<>();
        m.flatten(tree, List.of(), symbols, types);
        int[] due = {symbols.size(), Model.numberOf(m.type(tree)), Model.nameSum(tree), Model.deepness(tree), -1};
        for (int what = 0; what < 5; what++) looks.add(new Look("term", t, what, 0, Edges.term(t, what), due[what]));
        for (int i = 0; i < symbols.size(); i++) {
            looks.add(new Look("symbol", t, i, 0, Edges.symbol(t, i, 0), symbols.get(i)));
            looks.add(new Look("symbol", t, i, 1, Edges.symbol(t, i, 1), Model.numberOf(types.get(i))));
        }
        looks.add(new Look("symbol", t, symbols.size(), 0, Edges.symbol(t, symbols.size(), 0), -1));
    }

    private void lookAtTheorem(List<Look> looks, int p) {
        for (int what = -1; what < 7; what++) looks.add(new Look("theorem", p, what, 0, Edges.theorem(p, what), m.theorem(p, what)));
        for (int k = -1; k < 8; k++) looks.add(new Look("hypothesis", p, k, 0, Edges.hypothesis(p, k), m.hypothesis(p, k)));
    }

    private void lookAtGoals(List<Look> looks) {
        int open = m.open().size();
        for (int k = -1; k <= open; k++) {
            for (int what = -1; what < 10; what++) looks.add(new Look("open", k, what, 0, Edges.open(k, what), m.look(k, what)));
        }
    }
}
