import java.math.BigInteger;
import java.util.ArrayList;
import java.util.LinkedHashSet;
import java.util.List;

/**
 * The document once more, as trees and lists of the Java library and as plainly as can be, so that ModelTest can lay the
 * answers of both side by side. A TYPE is a text of its digits; LAM holds the TYPE of its variable.
 */
final class Model {
    sealed interface T permits Name, App, Eq, Lam, Var { }
    record Name(int v) implements T { }
    record App(T f, T x) implements T { }
    record Eq(T a, T b) implements T { }
    record Lam(String type, T body) implements T { }
    record Var(int k) implements T { }
    record Thm(List<T> hyps, T concl, int rule, int first, int second) { }

    static final class Goal {
        final List<T> hyps;
        final T concl;
        int tactic = -1;
        int x = -1;
        List<Goal> left = List.of();

        Goal(List<T> hyps, T concl) {
            this.hyps = hyps;
            this.concl = concl;
        }
    }

    static final class Refusal extends RuntimeException {
        private static final long serialVersionUID = 1L;
        final int answer;

        Refusal(int answer) {
            super(null, null, false, false);
            this.answer = answer;
        }
    }

    static final String TRUTHS = "00", THINGS = "01";
    final String[] names = new String[8];
    final List<Integer> draft = new ArrayList<>();
    final List<T> terms = new ArrayList<>();
    final List<Thm> thms = new ArrayList<>();
    Goal top = null;
    final List<Goal> history = new ArrayList<>();

    Model() {
        java.util.Arrays.fill(names, THINGS);
    }

    private static void need(boolean holds, int answer) {
        if (!holds) throw new Refusal(answer);
    }

    // TYPES

    /** Where the TYPE that begins at a digit ends; -1 if none does. */
    static int typeEnd(String digits, int at) {
        if (at < 0 || at >= digits.length()) return -1;
        if (digits.charAt(at) == '1') {
            int middle = typeEnd(digits, at + 1);
            return middle < 0 ? -1 : typeEnd(digits, middle);
        }
        return at + 2 <= digits.length() ? at + 2 : -1;
    }

    static String typeOf(int number) {
        if (number < 2) return null;
        String digits = Integer.toBinaryString(number).substring(1);
        return digits.length() <= 24 && typeEnd(digits, 0) == digits.length() ? digits : null;
    }

    static int numberOf(String type) {
        return Integer.parseInt("1" + type, 2);
    }

    static String from(String type) {
        return type.substring(1, typeEnd(type, 1));
    }

    static String to(String type) {
        return type.substring(typeEnd(type, 1));
    }

    int function(int from, int to) {
        String a = typeOf(from), b = typeOf(to);
        if (a == null || b == null) return -1;
        return 1 + a.length() + b.length() > 24 ? -5 : numberOf("1" + a + b);
    }

    int declare(int v, int type) {
        if (v < 0 || v > 7 || typeOf(type) == null) return -1;
        if (!terms.isEmpty()) return -7;
        int before = numberOf(names[v]);
        names[v] = typeOf(type);
        return before;
    }

    // TERMS

    String type(T t, List<String> around) {
        if (t instanceof Name n) return names[n.v];
        if (t instanceof App a) return to(type(a.f, around));
        if (t instanceof Eq) return TRUTHS;
        if (t instanceof Var v) return around.get(around.size() - 1 - v.k);
        Lam l = (Lam) t;
        return "1" + l.type + type(l.body, with(around, l.type));
    }

    private static <E> List<E> with(List<E> list, E one) {
        List<E> longer = new ArrayList<>(list);
        longer.add(one);
        return longer;
    }

    String type(T t) {
        return type(t, List.of());
    }

    /** SYMBOLS and TYPES, one behind the other. */
    void flatten(T t, List<String> around, List<Integer> symbols, List<String> types) {
        types.add(type(t, around));
        if (t instanceof Name n) {
            symbols.add(n.v);
        } else if (t instanceof Var v) {
            symbols.add(11 + v.k);
        } else if (t instanceof App a) {
            symbols.add(8);
            flatten(a.f, around, symbols, types);
            flatten(a.x, around, symbols, types);
        } else if (t instanceof Eq e) {
            symbols.add(9);
            flatten(e.a, around, symbols, types);
            flatten(e.b, around, symbols, types);
        } else if (t instanceof Lam l) {
            symbols.add(10);
            flatten(l.body, with(around, l.type), symbols, types);
        }
    }

    private boolean big(T t) {
        List<Integer> symbols = new ArrayList<>();
        List<String> types = new ArrayList<>();
        flatten(t, List.of(), symbols, types);
        return symbols.size() > 24 || types.stream().anyMatch(type -> type.length() > 24);
    }

    static int deepness(T t) {
        if (t instanceof App a) return 1 + Math.max(deepness(a.f), deepness(a.x));
        if (t instanceof Eq e) return 1 + Math.max(deepness(e.a), deepness(e.b));
        return t instanceof Lam l ? 1 + deepness(l.body) : 1;
    }

    static int nameSum(T t) {
        if (t instanceof Name n) return 1 << n.v;
        if (t instanceof App a) return nameSum(a.f) | nameSum(a.x);
        if (t instanceof Eq e) return nameSum(e.a) | nameSum(e.b);
        return t instanceof Lam l ? nameSum(l.body) : 0;
    }

    private static T shift(T t, int by, int from) {
        if (t instanceof Var v) return v.k >= from ? new Var(v.k + by) : v;
        if (t instanceof App a) return new App(shift(a.f, by, from), shift(a.x, by, from));
        if (t instanceof Eq e) return new Eq(shift(e.a, by, from), shift(e.b, by, from));
        return t instanceof Lam l ? new Lam(l.type, shift(l.body, by, from + 1)) : t;
    }

    /** u for variable k, the LAM of which goes. */
    private static T fill(T t, int k, T u) {
        if (t instanceof Var v) return v.k == k ? shift(u, k, 0) : v.k > k ? new Var(v.k - 1) : v;
        if (t instanceof App a) return new App(fill(a.f, k, u), fill(a.x, k, u));
        if (t instanceof Eq e) return new Eq(fill(e.a, k, u), fill(e.b, k, u));
        return t instanceof Lam l ? new Lam(l.type, fill(l.body, k + 1, u)) : t;
    }

    /** u for NAME v. */
    private static T replace(T t, int v, T u, int depth) {
        if (t instanceof Name n) return n.v == v ? shift(u, depth, 0) : n;
        if (t instanceof App a) return new App(replace(a.f, v, u, depth), replace(a.x, v, u, depth));
        if (t instanceof Eq e) return new Eq(replace(e.a, v, u, depth), replace(e.b, v, u, depth));
        return t instanceof Lam l ? new Lam(l.type, replace(l.body, v, u, depth + 1)) : t;
    }

    private T lambda(T t, int v) {
        return new Lam(names[v], replace(shift(t, 1, 0), v, new Var(0), 0));
    }

    // Reading

    private static final class Ty {
        Ty is = null;
        String base = null;
        Ty from = null, to = null;
    }

    private static Ty at(Ty t) {
        Ty end = t;
        while (end.is != null) end = end.is;
        return end;
    }

    private static Ty known(String type) {
        Ty t = new Ty();
        if (type.charAt(0) == '0') {
            t.base = type;
            return t;
        }
        return arrow(known(from(type)), known(to(type)));
    }

    private static Ty arrow(Ty from, Ty to) {
        Ty t = new Ty();
        t.from = from;
        t.to = to;
        return t;
    }

    private static boolean within(Ty small, Ty large) {
        Ty l = at(large);
        return l == small || l.from != null && (within(small, l.from) || within(small, l.to));
    }

    private static void unify(Ty first, Ty second) {
        Ty a = at(first), b = at(second);
        if (a == b) return;
        if (a.base == null && a.from == null) {
            need(!within(a, b), -3);
            a.is = b;
        } else if (b.base == null && b.from == null) {
            unify(b, a);
        } else if (a.base != null || b.base != null) {
            need(a.base != null && a.base.equals(b.base), -3);
        } else {
            unify(a.from, b.from);
            unify(a.to, b.to);
        }
    }

    private static BigInteger digits(Ty type) {
        Ty t = at(type);
        return t.from == null ? BigInteger.TWO : digits(t.from).add(digits(t.to)).add(BigInteger.ONE);
    }

    private static String text(Ty type) {
        Ty t = at(type);
        if (t.from != null) return "1" + text(t.from) + text(t.to);
        return t.base == null ? THINGS : t.base;
    }

    private final class Reader {
        int next = 0;
        final List<Ty> all = new ArrayList<>();
        final List<Ty> variables = new ArrayList<>();

        /** The raw TERM, each LAM holding the number of its variable's TYPE. */
        T part(List<Integer> called) {
            need(next < draft.size(), -2);
            int token = draft.get(next++);
            if (token >= 10) {
                int number = lambdas++;
                return new Lam(Integer.toString(number), part(with(called, token - 10)));
            }
            if (token == 8) {
                T f = part(called);
                return new App(f, part(called));
            }
            if (token == 9) {
                T a = part(called);
                return new Eq(a, part(called));
            }
            int found = called.lastIndexOf(token);
            return found < 0 ? new Name(token) : new Var(called.size() - 1 - found);
        }

        int lambdas = 0;

        Ty find(T t, List<Ty> around) {
            Ty type;
            if (t instanceof Name n) {
                type = known(names[n.v]);
            } else if (t instanceof Var v) {
                type = around.get(around.size() - 1 - v.k);
            } else if (t instanceof App a) {
                type = new Ty();
                Ty f = find(a.f, around);
                unify(f, arrow(find(a.x, around), type));
            } else if (t instanceof Eq e) {
                unify(find(e.a, around), find(e.b, around));
                type = known(TRUTHS);
            } else {
                Lam l = (Lam) t;
                Ty variable = variables.get(Integer.parseInt(l.type));
                type = arrow(variable, find(l.body, with(around, variable)));
            }
            all.add(type);
            return type;
        }

        T finished(T t) {
            if (t instanceof App a) return new App(finished(a.f), finished(a.x));
            if (t instanceof Eq e) return new Eq(finished(e.a), finished(e.b));
            if (t instanceof Lam l) return new Lam(text(variables.get(Integer.parseInt(l.type))), finished(l.body));
            return t;
        }
    }

    int read() {
        try {
            Reader r = new Reader();
            T raw = r.part(List.of());
            need(r.next == draft.size(), -2);
            for (int i = 0; i < r.lambdas; i++) r.variables.add(new Ty());
            r.find(raw, List.of());
            for (Ty type : r.all) need(digits(type).compareTo(BigInteger.valueOf(24)) <= 0, -5);
            List<T> made = make(List.of(r.finished(raw)));
            commit(made);
            draft.clear();
            return terms.indexOf(r.finished(raw));
        } catch (Refusal refusal) {
            return refusal.answer;
        }
    }

    /** Which of these are new, none twice; FULL if there is no room. */
    private List<T> make(List<T> wanted) {
        LinkedHashSet<T> fresh = new LinkedHashSet<>(wanted);
        fresh.removeAll(terms);
        need(terms.size() + fresh.size() <= 64, -6);
        return new ArrayList<>(fresh);
    }

    private void commit(List<T> fresh) {
        terms.addAll(fresh);
    }

    // RULES

    private static List<T> join(List<T> a, List<T> b) {
        LinkedHashSet<T> all = new LinkedHashSet<>(a);
        all.addAll(b);
        return new ArrayList<>(all);
    }

    private static List<T> without(List<T> a, T t) {
        List<T> rest = new ArrayList<>(a);
        rest.remove(t);
        return rest;
    }

    private Eq eq(T t) {
        need(t instanceof Eq, -4);
        return (Eq) t;
    }

    private Eq beta(T t) {
        need(t instanceof App a && a.f instanceof Lam, -4);
        App a = (App) t;
        return new Eq(t, fill(((Lam) a.f).body, 0, a.x));
    }

    /** What a RULE makes of TERMS and THEOREMS, before any limit is looked at. */
    private Thm derive(int kind, int p, int q, T t, int v) {
        List<T> a = p >= 0 ? thms.get(p).hyps : List.of();
        List<T> b = q >= 0 ? thms.get(q).hyps : List.of();
        T s = p >= 0 ? thms.get(p).concl : null;
        T u = q >= 0 ? thms.get(q).concl : null;
        switch (kind) {
            case 0: return new Thm(List.of(), new Eq(t, t), 0, -1, -1);
            case 1: need(type(t).equals(TRUTHS), -4); return new Thm(List.of(t), t, 1, -1, -1);
            case 2: need(eq(s).b.equals(eq(u).a), -4); return new Thm(join(a, b), new Eq(eq(s).a, eq(u).b), 2, p, q);
            case 3: {
                String f = type(eq(s).a), x = type(eq(u).a);
                need(f.charAt(0) == '1' && from(f).equals(x), -4);
                return new Thm(join(a, b), new Eq(new App(eq(s).a, eq(u).a), new App(eq(s).b, eq(u).b)), 3, p, q);
            }
            case 4:
                eq(s);
                for (T h : a) need((nameSum(h) >> v & 1) == 0, -4);
                return new Thm(a, new Eq(lambda(eq(s).a, v), lambda(eq(s).b, v)), 4, p, -1);
            case 5: return new Thm(List.of(), beta(t), 5, -1, -1);
            case 6: need(eq(s).a.equals(u), -4); return new Thm(join(a, b), eq(s).b, 6, p, q);
            case 7: return new Thm(join(without(a, u), without(b, s)), new Eq(s, u), 7, p, q);
            default: {
                need(names[v].equals(type(t)), -4);
                LinkedHashSet<T> hyps = new LinkedHashSet<>();
                for (T h : a) hyps.add(replace(h, v, t, 0));
                return new Thm(new ArrayList<>(hyps), replace(s, v, t, 0), 8, p, -1);
            }
        }
    }

    private boolean isTerm(int t) {
        return t >= 0 && t < terms.size();
    }

    private boolean isThm(int p) {
        return p >= 0 && p < thms.size();
    }

    private static boolean isName(int v) {
        return v >= 0 && v < 8;
    }

    int rule(int kind, int a, int b, int c, boolean really) {
        try {
            need(kind >= 0 && kind <= 8, -1);
            boolean ofTerm = kind == 0 || kind == 1 || kind == 5;
            boolean ofTwo = kind == 2 || kind == 3 || kind == 6 || kind == 7;
            need(ofTerm ? isTerm(a) : isThm(a), -1);
            if (ofTwo) need(isThm(b), -1);
            if (kind == 4 || kind == 8) need(isName(b), -1);
            if (kind == 8) need(isTerm(c), -1);
            T t = ofTerm ? terms.get(a) : kind == 8 ? terms.get(c) : null;
            Thm made = derive(kind, ofTerm ? -1 : a, ofTwo ? b : -1, t, kind == 4 || kind == 8 ? b : -1);
            List<T> wanted = with(made.hyps, made.concl);
            for (T one : wanted) need(!big(one), -5);
            need(made.hyps.size() <= 6, -5);
            List<T> fresh = make(wanted);
            need(thms.size() < 40, -6);
            if (really) {
                commit(fresh);
                thms.add(made);
            }
            return thms.size() - (really ? 1 : 0);
        } catch (Refusal refusal) {
            return refusal.answer;
        }
    }

    private void under(int p, java.util.Set<Integer> seen) {
        if (p < 0 || !seen.add(p)) return;
        under(thms.get(p).first, seen);
        under(thms.get(p).second, seen);
    }

    int theorem(int p, int what) {
        if (!isThm(p)) return -1;
        Thm t = thms.get(p);
        java.util.Set<Integer> seen = new java.util.HashSet<>();
        under(p, seen);
        return switch (what) {
            case 0 -> terms.indexOf(t.concl);
            case 1 -> t.hyps.size();
            case 2 -> t.rule;
            case 3 -> t.first;
            case 4 -> t.second;
            case 5 -> seen.size();
            default -> -1;
        };
    }

    int hypothesis(int p, int k) {
        return isThm(p) && k >= 0 && k < thms.get(p).hyps.size() ? terms.indexOf(thms.get(p).hyps.get(k)) : -1;
    }

    // GOALS

    int goal(int t) {
        if (!isTerm(t)) return -1;
        if (!type(terms.get(t)).equals(TRUTHS)) return -4;
        top = new Goal(List.of(), terms.get(t));
        history.clear();
        return 1;
    }

    private void walk(Goal g, List<Goal> all) {
        if (g == null) return;
        all.add(g);
        for (Goal left : g.left) walk(left, all);
    }

    List<Goal> all() {
        List<Goal> all = new ArrayList<>();
        walk(top, all);
        return all;
    }

    List<Goal> open() {
        List<Goal> open = all();
        open.removeIf(g -> g.tactic >= 0);
        return open;
    }

    int tactic(int kind, int x, boolean really) {
        try {
            need(kind >= 0 && kind <= 8 && !open().isEmpty(), -1);
            if (kind == 2 || kind == 6) need(isTerm(x), -1);
            if (kind == 4) need(isName(x), -1);
            if (kind == 8) need(isThm(x), -1);
            Goal g = open().get(0);
            List<Goal> left = left(kind, x, g);
            List<T> wanted = new ArrayList<>();
            for (Goal one : left) {
                need(one.hyps.size() <= 6, -5);
                wanted.addAll(one.hyps);
                wanted.add(one.concl);
            }
            for (T one : wanted) need(!big(one), -5);
            List<T> fresh = make(wanted);
            need(all().size() + left.size() <= 30, -6);
            if (!really) return 0;
            commit(fresh);
            g.tactic = kind;
            g.x = x;
            g.left = left;
            history.add(g);
            return open().size();
        } catch (Refusal refusal) {
            return refusal.answer;
        }
    }

    private List<Goal> left(int kind, int x, Goal g) {
        List<T> h = g.hyps;
        switch (kind) {
            case 0: need(eq(g.concl).a.equals(eq(g.concl).b), -4); return List.of();
            case 1: need(h.contains(g.concl), -4); return List.of();
            case 2: {
                T t = terms.get(x);
                need(type(eq(g.concl).a).equals(type(t)), -4);
                return List.of(new Goal(h, new Eq(eq(g.concl).a, t)), new Goal(h, new Eq(t, eq(g.concl).b)));
            }
            case 3: {
                need(eq(g.concl).a instanceof App && eq(g.concl).b instanceof App, -4);
                App a = (App) eq(g.concl).a, b = (App) eq(g.concl).b;
                need(type(a.f).equals(type(b.f)), -4);
                return List.of(new Goal(h, new Eq(a.f, b.f)), new Goal(h, new Eq(a.x, b.x)));
            }
            case 4: {
                need(eq(g.concl).a instanceof Lam && eq(g.concl).b instanceof Lam, -4);
                Lam a = (Lam) eq(g.concl).a, b = (Lam) eq(g.concl).b;
                need(a.type.equals(names[x]) && b.type.equals(names[x]), -4);
                int used = nameSum(g.concl);
                for (T one : h) used |= nameSum(one);
                need((used >> x & 1) == 0, -4);
                return List.of(new Goal(h, new Eq(fill(a.body, 0, new Name(x)), fill(b.body, 0, new Name(x)))));
            }
            case 5: need(beta(eq(g.concl).a).equals(g.concl), -4); return List.of();
            case 6: {
                T t = terms.get(x);
                need(type(t).equals(TRUTHS), -4);
                return List.of(new Goal(h, new Eq(t, g.concl)), new Goal(h, t));
            }
            case 7: {
                T s = eq(g.concl).a, t = eq(g.concl).b;
                need(type(s).equals(TRUTHS), -4);
                return List.of(new Goal(join(h, List.of(t)), s), new Goal(join(h, List.of(s)), t));
            }
            default:
                need(thms.get(x).concl.equals(g.concl) && h.containsAll(thms.get(x).hyps), -4);
                return List.of();
        }
    }

    int undo() {
        if (history.isEmpty()) return -1;
        Goal g = history.remove(history.size() - 1);
        g.tactic = -1;
        g.left = List.of();
        return open().size();
    }

    int repeat(int n) {
        if (n < 1 || n > 8) return -1;
        int done = 0;
        while (done < n && step()) done++;
        return done;
    }

    private boolean step() {
        if (tactic(0, 0, true) >= 0 || tactic(1, 0, true) >= 0 || tactic(5, 0, true) >= 0) return true;
        for (int v = 0; v < 8; v++) if (tactic(4, v, true) >= 0) return true;
        return tactic(3, 0, true) >= 0;
    }

    int look(int k, int what) {
        if (k < 0 || k >= open().size()) return -1;
        Goal g = open().get(k);
        if (what == 0) return terms.indexOf(g.concl);
        if (what == 1) return g.hyps.size();
        return what >= 2 && what - 2 < g.hyps.size() ? terms.indexOf(g.hyps.get(what - 2)) : -1;
    }

    int close() {
        if (top == null || !open().isEmpty()) return -1;
        int needed = 0;
        for (Goal g : all()) if (g.tactic != 8) needed++;
        if (thms.size() + needed > 40) return -6;
        int p = prove(top);
        top = null;
        history.clear();
        return p;
    }

    /** By the RULES themselves, so that what the document says of close is tested too. */
    private int prove(Goal g) {
        if (g.tactic == 8) return g.x;
        List<Integer> made = new ArrayList<>();
        for (Goal one : g.left) made.add(prove(one));
        int p = made.size() > 0 ? made.get(0) : -1, q = made.size() > 1 ? made.get(1) : -1;
        T t = g.tactic == 1 ? g.concl : g.tactic == 0 || g.tactic == 5 ? eq(g.concl).a : null;
        Thm thm = derive(g.tactic, p, q, t, g.x);
        if (!thm.concl.equals(g.concl)) throw new IllegalStateException("close makes another CONCLUSION");
        if (!g.hyps.containsAll(thm.hyps)) throw new IllegalStateException("close makes other HYPOTHESES");
        if (!terms.containsAll(thm.hyps)) throw new IllegalStateException("close makes TERMS");
        thms.add(thm);
        return thms.size() - 1;
    }

    int count(int what) {
        return switch (what) {
            case 0 -> terms.size();
            case 1 -> thms.size();
            case 2 -> all().size();
            case 3 -> open().size();
            case 4 -> draft.size();
            default -> -1;
        };
    }
}
