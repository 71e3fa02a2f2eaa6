/** The desk of ../shared/DOC.md: terms read from drafts, theorems by nine rules, goals by nine tactics. */
public final class SequentDesk {
    public static final int REFUSED = -1, SHAPE = -2, KIND = -3, UNFIT = -4, BIG = -5, FULL = -6, LATE = -7;

    private static final int MOST_SYMBOLS = 24, MOST_DIGITS = 24, MOST_HYPOTHESES = 6;
    private static final int MOST_TERMS = 64, MOST_THEOREMS = 40, MOST_GOALS = 30;
    /** INST makes the most TERMS in one call: six HYPOTHESES and a CONCLUSION. */
    private static final int MOST_NEW_TERMS = 7;
    private static final int MOST_LEFT_GOALS = 2;
    private static final int MOST_REPEATS = 8;

    private static final int NAMES = 8, APP = 8, EQ = 9, LAM = 10, VARIABLE = 11, TOKENS = 18;
    private static final int TRUTHS = 4, THINGS = 5, TOO_LONG = -1;
    private static final int NONE = -1;

    private static final int REFL = 0, ASSUME = 1, TRANS = 2, COMB = 3, ABS = 4, BETA = 5, EQMP = 6, DEDUCT = 7;
    private static final int INST = 8, EXACT = 8;
    /** By RULE, of how many THEOREMS it makes one. */
    private static final int[] USED_THEOREMS = {0, 0, 2, 2, 1, 0, 2, 2, 1};
    /** By TACTIC, how many GOALS it leaves. */
    private static final int[] LEFT_GOALS = {0, 0, 2, 2, 1, 0, 2, 2, 0};
    /** The TACTICS that repeat tries, in their order, and the NAMES that ABS needs. */
    private static final int[] REPEATED = {REFL, ASSUME, BETA, ABS, ABS, ABS, ABS, ABS, ABS, ABS, ABS, COMB};
    private static final int[] REPEATED_WITH = {0, 0, 0, 0, 1, 2, 3, 4, 5, 6, 7, 0};

    private final Terms terms;
    private final Draft draft;
    private final Inference inference;
    private final Rules rules;
    private final Goals goals;

    public SequentDesk() {
        terms = new Terms();
        draft = new Draft();
        inference = new Inference();
        rules = new Rules(terms);
        goals = new Goals(terms, rules);
    }

    public int function(int from, int to) {
        if (!Types.isType(from) || !Types.isType(to)) return REFUSED;
        int joined = Types.join(from, to);
        return joined == TOO_LONG ? BIG : joined;
    }

    public int declare(int v, int type) {
        if (!isName(v) || !Types.isType(type)) return REFUSED;
        if (terms.made > 0) return LATE;
        int before = terms.nameTypes[v];
        terms.nameTypes[v] = type;
        return before;
    }

    public int token(int t) {
        if (t < 0 || t >= TOKENS) return REFUSED;
        if (draft.length >= MOST_SYMBOLS) return FULL;
        draft.tokens[draft.length] = t;
        draft.length++;
        return draft.length;
    }

    public int clear() {
        int had = draft.length;
        draft.length = 0;
        return had;
    }

    public int read() {
        if (!draft.isWhole()) return SHAPE;
        Term fresh = terms.fresh();
        draft.writeTo(fresh);
        int refusal = inference.giveTypes(fresh, draft.binders, terms.nameTypes);
        if (refusal < 0) return refusal;
        int before = terms.made;
        int number = terms.keep();
        if (terms.overfull()) {
            terms.made = before;
            return FULL;
        }
        draft.length = 0;
        return number;
    }

    public int term(int t, int what) {
        if (!terms.has(t)) return REFUSED;
        Term found = terms.all[t];
        switch (what) {
            case 0: return found.length;
            case 1: return found.types[0];
            case 2: return found.names();
            case 3: return found.deepness();
            default: return REFUSED;
        }
    }

    public int symbol(int t, int i, int what) {
        if (!terms.has(t) || i < 0 || i >= terms.all[t].length) return REFUSED;
        switch (what) {
            case 0: return terms.all[t].symbols[i];
            case 1: return terms.all[t].types[i];
            default: return REFUSED;
        }
    }

    public int rule(int kind, int a, int b, int c) {
        return rules.make(kind, a, b, c);
    }

    public int theorem(int p, int what) {
        if (!rules.has(p)) return REFUSED;
        Theorem found = rules.all[p];
        switch (what) {
            case 0: return found.says.conclusion;
            case 1: return found.says.size;
            case 2: return found.rule;
            case 3: return found.first;
            case 4: return found.second;
            case 5: return Long.bitCount(found.rests);
            default: return REFUSED;
        }
    }

    public int hypothesis(int p, int k) {
        if (!rules.has(p) || k < 0 || k >= rules.all[p].says.size) return REFUSED;
        return rules.all[p].says.hypotheses[k];
    }

    public int goal(int t) {
        if (!terms.has(t)) return REFUSED;
        if (terms.all[t].types[0] != TRUTHS) return UNFIT;
        goals.beginWith(t);
        return goals.openCount;
    }

    public int tactic(int kind, int x) {
        return goals.attempt(kind, x);
    }

    public int undo() {
        return goals.takeBack();
    }

    public int repeat(int n) {
        if (n < 1 || n > MOST_REPEATS) return REFUSED;
        for (int done = 0; done < n; done++) {
            if (!advance()) return done;
        }
        return n;
    }

    /** The first TACTIC of those of repeat that is not refused; whether there is one. */
    private boolean advance() {
        for (int step = 0; step < REPEATED.length; step++) {
            if (goals.attempt(REPEATED[step], REPEATED_WITH[step]) >= 0) return true;
        }
        return false;
    }

    public int open(int k, int what) {
        if (k < 0 || k >= goals.openCount || what < 0) return REFUSED;
        Statement wants = goals.openGoal(k).wants;
        if (what == 0) return wants.conclusion;
        if (what == 1) return wants.size;
        return what - 2 < wants.size ? wants.hypotheses[what - 2] : REFUSED;
    }

    public int close() {
        return goals.finish();
    }

    public int count(int what) {
        switch (what) {
            case 0: return terms.made;
            case 1: return rules.made;
            case 2: return goals.made;
            case 3: return goals.openCount;
            case 4: return draft.length;
            default: return REFUSED;
        }
    }

    private static boolean isName(int v) {
        return v >= 0 && v < NAMES;
    }

    /** What is done with TYPES, which are numbers. */
    private static final class Types {
        static boolean isType(int type) {
            if (type < TRUTHS) return false;
            int digits = digits(type);
            return digits <= MOST_DIGITS && taken(type, digits) == digits;
        }

        /** How many binary digits stand behind the first one. */
        static int digits(int type) {
            int digits = 0;
            while (digits < 31 && type >> digits > 1) {
                digits++;
            }
            return digits;
        }

        /** How many of the last digits the TYPE takes that begins with the first of these; 0 if none does. */
        private static int taken(int number, int last) {
            int awaited = 1;
            int used = 0;
            while (awaited > 0 && used < last) {
                boolean isFunction = (number >> (last - 1 - used) & 1) == 1;
                used += isFunction ? 1 : 2;
                awaited += isFunction ? 1 : -1;
            }
            return awaited == 0 && used <= last ? used : 0;
        }

        static boolean isFunction(int type) {
            return (type >> (digits(type) - 1) & 1) == 1;
        }

        /** Of a TYPE of FUNCTIONS, the TYPE from which they go. */
        static int from(int type) {
            int last = digits(type) - 1;
            int used = taken(type, last);
            return lastDigits(type >> (last - used), used);
        }

        /** Of a TYPE of FUNCTIONS, the TYPE to which they go. */
        static int to(int type) {
            int last = digits(type) - 1;
            return lastDigits(type, last - taken(type, last));
        }

        private static int lastDigits(int number, int digits) {
            return 1 << digits | number & (1 << digits) - 1;
        }

        /** The TYPE of FUNCTIONS from one TYPE to another, TOO_LONG if it is or if one of them is. */
        static int join(int from, int to) {
            if (from == TOO_LONG || to == TOO_LONG) return TOO_LONG;
            int fromDigits = digits(from);
            int toDigits = digits(to);
            if (1 + fromDigits + toDigits > MOST_DIGITS) return TOO_LONG;
            // The first digit of from is the one of FUNCTIONS; another one goes before it.
            return 1 << (fromDigits + toDigits + 1) | from << toDigits | to & (1 << toDigits) - 1;
        }
    }

    /** A TERM, made or still being written. */
    private static final class Term {
        final int[] symbols = new int[MOST_SYMBOLS];
        final int[] types = new int[MOST_SYMBOLS];
        /** For each SYMBOL, where its PART has ended; known when settled. */
        final int[] ends = new int[MOST_SYMBOLS];
        int length;
        boolean big;

        void begin() {
            length = 0;
            big = false;
        }

        void add(int symbol, int type) {
            if (length >= MOST_SYMBOLS || type == TOO_LONG) {
                big = true;
                return;
            }
            symbols[length] = symbol;
            types[length] = type;
            length++;
        }

        void addPart(Term of, int at) {
            int size = of.ends[at] - at;
            if (length + size > MOST_SYMBOLS) {
                big = true;
                return;
            }
            for (int i = 0; i < size; i++) {
                symbols[length + i] = of.symbols[at + i];
                types[length + i] = of.types[at + i];
            }
            length += size;
        }

        void addEquation(Term left, int leftAt, Term right, int rightAt) {
            add(EQ, TRUTHS);
            addPart(left, leftAt);
            addPart(right, rightAt);
        }

        /** APP, of a TYPE, of the PART of one TERM and that of another one. */
        void addUse(int type, Term function, int functionAt, Term on, int onAt) {
            add(APP, type);
            addPart(function, functionAt);
            addPart(on, onAt);
        }

        /** LAM, of a TYPE, of a PART, a NAME having become the variable. */
        void addLambda(int type, Term of, int at, int name) {
            add(LAM, type);
            for (int i = at; i < of.ends[at]; i++) {
                boolean bound = of.symbols[i] == name;
                add(bound ? VARIABLE + of.lambdasAround(at, i) : of.symbols[i], of.types[i]);
            }
        }

        /** The body of a LAM, with a PART for the variable; that PART has no variables from outside. */
        void addFilled(Term of, int bodyAt, Term by, int byAt) {
            for (int i = bodyAt; i < of.ends[bodyAt]; i++) {
                if (of.symbols[i] == VARIABLE + of.lambdasAround(bodyAt, i)) {
                    addPart(by, byAt);
                } else {
                    add(of.symbols[i], of.types[i]);
                }
            }
        }

        /** A whole TERM, with another one for a NAME. */
        void addReplaced(Term of, int name, Term by) {
            for (int i = 0; i < of.length; i++) {
                if (of.symbols[i] == name) {
                    addPart(by, 0);
                } else {
                    add(of.symbols[i], of.types[i]);
                }
            }
        }

        /** How many LAMs from a SYMBOL on are around a later one. */
        int lambdasAround(int from, int at) {
            int around = 0;
            for (int i = from; i < at; i++) {
                if (symbols[i] == LAM && ends[i] > at) around++;
            }
            return around;
        }

        void settle() {
            for (int i = length - 1; i >= 0; i--) {
                int end = i + 1;
                for (int part = 0; part < partsOf(symbols[i]) && end < length; part++) {
                    end = ends[end];
                }
                ends[i] = end;
            }
        }

        static int partsOf(int symbol) {
            if (symbol == APP || symbol == EQ) return 2;
            return symbol == LAM ? 1 : 0;
        }

        static boolean alike(Term a, int aAt, Term b, int bAt) {
            int size = a.ends[aAt] - aAt;
            if (size != b.ends[bAt] - bAt) return false;
            for (int i = 0; i < size; i++) {
                if (a.symbols[aAt + i] != b.symbols[bAt + i]) return false;
                if (a.types[aAt + i] != b.types[bAt + i]) return false;
            }
            return true;
        }

        boolean isEquation() {
            return symbols[0] == EQ;
        }

        /** Where the second PART of an EQ begins; the first one begins at 1. */
        int right() {
            return ends[1];
        }

        /** Whether the PART is APP of a LAM and something. */
        boolean isRedex(int at) {
            return symbols[at] == APP && symbols[at + 1] == LAM;
        }

        /** 2^v for each NAME v, added up. */
        int names() {
            int names = 0;
            for (int i = 0; i < length; i++) {
                if (symbols[i] < NAMES) names |= 1 << symbols[i];
            }
            return names;
        }

        boolean hasName(int v) {
            return (names() >> v & 1) == 1;
        }

        int deepness() {
            int deepest = 0;
            for (int at = 0; at < length; at++) {
                int deep = 1;
                for (int i = 0; i < at; i++) {
                    if (ends[i] > at) deep++;
                }
                deepest = Math.max(deepest, deep);
            }
            return deepest;
        }
    }

    /** The TERMS that are made; the next one is written in the row behind them. */
    private static final class Terms {
        final int[] nameTypes = new int[NAMES];
        final Term[] all = new Term[MOST_TERMS + MOST_NEW_TERMS + 1];
        /** Beyond MOST_TERMS only within a call, which is refused then. */
        int made;
        private final Term single = new Term();

        Terms() {
            for (int v = 0; v < NAMES; v++) {
                nameTypes[v] = THINGS;
            }
            for (int t = 0; t < all.length; t++) {
                all[t] = new Term();
            }
        }

        boolean has(int t) {
            return t >= 0 && t < made;
        }

        boolean overfull() {
            return made > MOST_TERMS;
        }

        /** An empty row; keep makes a TERM of what is written there. */
        Term fresh() {
            Term next = all[Math.min(made, all.length - 1)];
            next.begin();
            return next;
        }

        /** The number of the TERM in the fresh row, BIG if it is too long. */
        int keep() {
            Term next = all[Math.min(made, all.length - 1)];
            if (next.big) return BIG;
            next.settle();
            for (int t = 0; t < made && t < all.length; t++) {
                if (Term.alike(all[t], 0, next, 0)) return t;
            }
            made = Math.min(made + 1, all.length - 1);
            return made - 1;
        }

        int keepPart(Term of, int at) {
            fresh().addPart(of, at);
            return keep();
        }

        int keepEquation(Term left, int leftAt, Term right, int rightAt) {
            fresh().addEquation(left, leftAt, right, rightAt);
            return keep();
        }

        /** A NAME as a row of its own, which is no TERM and lasts until the next call. */
        Term nameRow(int v) {
            single.begin();
            single.add(v, nameTypes[v]);
            single.settle();
            return single;
        }

        boolean inHypotheses(int v, Statement statement) {
            for (int k = 0; k < statement.size; k++) {
                if (all[statement.hypotheses[k]].hasName(v)) return true;
            }
            return false;
        }
    }

    /** The draft, and which LAM calls a variable by which NAME in it. */
    private static final class Draft {
        final int[] tokens = new int[MOST_SYMBOLS];
        /** For each token that is a variable, where its LAM stands; NONE for others. */
        final int[] binders = new int[MOST_SYMBOLS];
        int length;

        boolean isWhole() {
            int awaited = 1;
            for (int i = 0; i < length; i++) {
                if (awaited == 0) return false;
                awaited += Term.partsOf(symbolOf(tokens[i])) - 1;
            }
            return awaited == 0;
        }

        private static int symbolOf(int token) {
            return Math.min(token, LAM);
        }

        /** Writes the SYMBOLS of a whole draft; their TYPES are still to be found. */
        void writeTo(Term row) {
            for (int i = 0; i < length; i++) {
                row.add(symbolOf(tokens[i]), THINGS);
            }
            row.settle();
            for (int i = 0; i < length; i++) {
                binders[i] = isName(tokens[i]) ? binderOf(row, i) : NONE;
            }
            for (int i = 0; i < length; i++) {
                if (binders[i] != NONE) {
                    row.symbols[i] = VARIABLE + row.lambdasAround(binders[i] + 1, i);
                }
            }
        }

        private int binderOf(Term row, int at) {
            for (int i = at - 1; i >= 0; i--) {
                if (tokens[i] == LAM + tokens[at] && row.ends[i] > at) return i;
            }
            return NONE;
        }
    }

    /**
     * Finds TYPES by making nodes of a graph equal: one for each PART, one for the variable of each LAM.
     * A graph, since TYPES on the way to a KIND or BIG can be longer than any number.
     */
    private static final class Inference {
        private static final int OPEN = 0, FUNCTION = 1, UNKNOWN = 0;
        private static final int TRUTHS_NODE = 2 * MOST_SYMBOLS, THINGS_NODE = TRUTHS_NODE + 1;
        private static final int FIRST_FUNCTION = THINGS_NODE + 1;
        /** A NAME's TYPE of 24 digits has 7 FUNCTIONS in it; an APP or a LAM says one. */
        private static final int MOST_FUNCTIONS = 8 * MOST_SYMBOLS;
        private static final int NODES = FIRST_FUNCTION + MOST_FUNCTIONS;
        /** Two for a SYMBOL, and two for each two FUNCTIONS that become one. */
        private static final int EQUATIONS = 2 * MOST_SYMBOLS + 2 * MOST_FUNCTIONS;

        private final int[] link = new int[NODES];
        private final int[] kinds = new int[NODES];
        private final int[] froms = new int[NODES];
        private final int[] tos = new int[NODES];
        private final int[] found = new int[NODES];
        private final int[] lefts = new int[EQUATIONS];
        private final int[] rights = new int[EQUATIONS];
        private int nodes;
        private int equations;

        /** Writes the TYPES into a row of SYMBOLS: 0, or KIND or BIG. */
        int giveTypes(Term row, int[] binders, int[] nameTypes) {
            begin();
            for (int i = 0; i < row.length; i++) {
                if (binders[i] != NONE) {
                    equate(i, variableOf(binders[i]));
                } else {
                    demand(row, i, nameTypes);
                }
            }
            if (!solve()) return KIND;
            workOut();
            int refusal = firstRefusal();
            if (refusal < 0) return refusal;
            for (int i = 0; i < row.length; i++) {
                row.types[i] = found[root(i)];
            }
            return 0;
        }

        private void begin() {
            equations = 0;
            nodes = FIRST_FUNCTION;
            for (int n = 0; n < FIRST_FUNCTION; n++) {
                link[n] = n;
                kinds[n] = OPEN;
            }
            kinds[TRUTHS_NODE] = TRUTHS;
            kinds[THINGS_NODE] = THINGS;
        }

        private static int variableOf(int lambdaAt) {
            return MOST_SYMBOLS + lambdaAt;
        }

        /** What a SYMBOL that is no variable asks of the TYPES. */
        private void demand(Term row, int i, int[] nameTypes) {
            int symbol = row.symbols[i];
            if (symbol == APP) {
                equate(i + 1, functionNode(row.ends[i + 1], i));
            } else if (symbol == EQ) {
                equate(i, TRUTHS_NODE);
                equate(i + 1, row.ends[i + 1]);
            } else if (symbol == LAM) {
                equate(i, functionNode(variableOf(i), i + 1));
            } else if (isName(symbol)) {
                equate(i, nodeOf(nameTypes[symbol], 0));
            }
        }

        private void equate(int a, int b) {
            if (equations >= EQUATIONS) return;
            lefts[equations] = a;
            rights[equations] = b;
            equations++;
        }

        private int functionNode(int from, int to) {
            int node = Math.min(nodes, NODES - 1);
            link[node] = node;
            kinds[node] = FUNCTION;
            froms[node] = from;
            tos[node] = to;
            nodes = node + 1;
            return node;
        }

        private int nodeOf(int type, int depth) {
            if (type == TRUTHS) return TRUTHS_NODE;
            if (type == THINGS || depth > MOST_DIGITS) return THINGS_NODE;
            return functionNode(nodeOf(Types.from(type), depth + 1), nodeOf(Types.to(type), depth + 1));
        }

        private int root(int node) {
            int at = node;
            for (int step = 0; step < NODES && link[at] != at; step++) {
                at = link[at];
            }
            return at;
        }

        /** Makes all equations true; false if two different kinds would have to be one. */
        private boolean solve() {
            for (int e = 0; e < equations && e < EQUATIONS; e++) {
                int a = root(lefts[e]);
                int b = root(rights[e]);
                if (a == b) continue;
                if (kinds[a] == OPEN) {
                    link[a] = b;
                } else if (kinds[b] == OPEN) {
                    link[b] = a;
                } else if (kinds[a] == FUNCTION && kinds[b] == FUNCTION) {
                    link[a] = b;
                    equate(froms[a], froms[b]);
                    equate(tos[a], tos[b]);
                } else {
                    return false;
                }
            }
            return true;
        }

        /** From the leaves on; a TYPE that would be within itself stays UNKNOWN. */
        private void workOut() {
            for (int n = 0; n < nodes; n++) {
                found[n] = UNKNOWN;
            }
            boolean changed = true;
            for (int round = 0; round < nodes && changed; round++) {
                changed = false;
                for (int n = 0; n < nodes; n++) {
                    if (link[n] == n && found[n] == UNKNOWN) {
                        found[n] = typeOf(n);
                        if (found[n] != UNKNOWN) changed = true;
                    }
                }
            }
        }

        private int typeOf(int node) {
            if (kinds[node] == OPEN) return THINGS;
            if (kinds[node] != FUNCTION) return kinds[node];
            int from = found[root(froms[node])];
            int to = found[root(tos[node])];
            return from == UNKNOWN || to == UNKNOWN ? UNKNOWN : Types.join(from, to);
        }

        private int firstRefusal() {
            int refusal = 0;
            for (int n = 0; n < nodes; n++) {
                if (link[n] == n && found[n] == UNKNOWN) return KIND;
                if (link[n] == n && found[n] == TOO_LONG) refusal = BIG;
            }
            return refusal;
        }
    }

    /** HYPOTHESES and a CONCLUSION, by the numbers of TERMS. */
    private static final class Statement {
        final int[] hypotheses = new int[MOST_HYPOTHESES];
        int size;
        int conclusion;
        boolean big;

        void begin() {
            size = 0;
            conclusion = NONE;
            big = false;
        }

        /** The number of a TERM, or BIG where it could not be made. */
        void assume(int t) {
            if (t >= 0 && assumes(t)) return;
            if (t < 0 || size >= MOST_HYPOTHESES) {
                big = true;
                return;
            }
            hypotheses[size] = t;
            size++;
        }

        void assumeThoseOf(Statement other) {
            for (int k = 0; k < other.size; k++) {
                assume(other.hypotheses[k]);
            }
        }

        void assumeThoseBut(Statement other, int t) {
            for (int k = 0; k < other.size; k++) {
                if (other.hypotheses[k] != t) assume(other.hypotheses[k]);
            }
        }

        /** The number of a TERM, or BIG where it could not be made. */
        void conclude(int t) {
            conclusion = t;
            if (t < 0) big = true;
        }

        boolean assumes(int t) {
            for (int k = 0; k < size; k++) {
                if (hypotheses[k] == t) return true;
            }
            return false;
        }

        boolean assumesThoseOf(Statement other) {
            for (int k = 0; k < other.size; k++) {
                if (!assumes(other.hypotheses[k])) return false;
            }
            return true;
        }
    }

    private static final class Theorem {
        final Statement says = new Statement();
        int rule;
        int first;
        int second;
        /** A bit for each THEOREM on which it rests, itself among them. */
        long rests;
    }

    /** The THEOREMS, and the RULES that make them. */
    private static final class Rules {
        private final Terms terms;
        final Theorem[] all = new Theorem[MOST_THEOREMS + 1];
        int made;

        Rules(Terms terms) {
            this.terms = terms;
            for (int p = 0; p < all.length; p++) {
                all[p] = new Theorem();
            }
        }

        boolean has(int p) {
            return p >= 0 && p < made;
        }

        int make(int kind, int a, int b, int c) {
            if (!areThere(kind, a, b, c)) return REFUSED;
            if (!fit(kind, a, b, c)) return UNFIT;
            int before = terms.made;
            write(kind, a, b, c);
            int refusal = 0;
            if (all[made].says.big) {
                refusal = BIG;
            } else if (terms.overfull() || made >= MOST_THEOREMS) {
                refusal = FULL;
            }
            if (refusal < 0) {
                terms.made = before;
                return refusal;
            }
            made++;
            return made - 1;
        }

        private boolean areThere(int kind, int a, int b, int c) {
            switch (kind) {
                case REFL: case ASSUME: case BETA: return terms.has(a);
                case TRANS: case COMB: case EQMP: case DEDUCT: return has(a) && has(b);
                case ABS: return has(a) && isName(b);
                case INST: return has(a) && isName(b) && terms.has(c);
                default: return false;
            }
        }

        private Term conclusionOf(int p) {
            return terms.all[all[p].says.conclusion];
        }

        private boolean fit(int kind, int a, int b, int c) {
            switch (kind) {
                case ASSUME: return terms.all[a].types[0] == TRUTHS;
                case TRANS: return canChain(conclusionOf(a), conclusionOf(b));
                case COMB: return canCombine(conclusionOf(a), conclusionOf(b));
                case ABS: return conclusionOf(a).isEquation() && !terms.inHypotheses(b, all[a].says);
                case BETA: return terms.all[a].isRedex(0);
                case EQMP: return canPass(conclusionOf(a), conclusionOf(b));
                case INST: return terms.nameTypes[b] == terms.all[c].types[0];
                default: return true;
            }
        }

        private static boolean canChain(Term p, Term q) {
            return p.isEquation() && q.isEquation() && Term.alike(p, p.right(), q, 1);
        }

        private static boolean canCombine(Term p, Term q) {
            if (!p.isEquation() || !q.isEquation()) return false;
            return Types.isFunction(p.types[1]) && Types.from(p.types[1]) == q.types[1];
        }

        private static boolean canPass(Term p, Term q) {
            return p.isEquation() && Term.alike(p, 1, q, 0);
        }

        /** Writes the THEOREM into the row behind the others. */
        private void write(int kind, int a, int b, int c) {
            int p = USED_THEOREMS[kind] > 0 ? a : NONE;
            int q = USED_THEOREMS[kind] > 1 ? b : NONE;
            begin(kind, p, q);
            Statement says = all[made].says;
            // TERMS of HYPOTHESES are made before that of the CONCLUSION.
            if (kind == INST) replaceHypotheses(says, all[a].says, b, c);
            writeConclusion(terms.fresh(), kind, a, b, c);
            says.conclude(terms.keep());
            gather(kind, p, q);
        }

        private void begin(int kind, int p, int q) {
            Theorem next = all[made];
            next.says.begin();
            next.rule = kind;
            next.first = p;
            next.second = q;
            next.rests = 1L << made;
            if (has(p)) next.rests |= all[p].rests;
            if (has(q)) next.rests |= all[q].rests;
        }

        private void replaceHypotheses(Statement says, Statement old, int v, int t) {
            for (int k = 0; k < old.size; k++) {
                terms.fresh().addReplaced(terms.all[old.hypotheses[k]], v, terms.all[t]);
                says.assume(terms.keep());
            }
        }

        private void writeConclusion(Term row, int kind, int a, int b, int c) {
            switch (kind) {
                case REFL: row.addEquation(terms.all[a], 0, terms.all[a], 0); break;
                case ASSUME: row.addPart(terms.all[a], 0); break;
                case TRANS: row.addEquation(conclusionOf(a), 1, conclusionOf(b), conclusionOf(b).right()); break;
                case COMB: writeCombined(row, conclusionOf(a), conclusionOf(b)); break;
                case ABS: writeAbstracted(row, conclusionOf(a), b); break;
                case BETA: writeReduced(row, terms.all[a]); break;
                case EQMP: row.addPart(conclusionOf(a), conclusionOf(a).right()); break;
                case DEDUCT: row.addEquation(conclusionOf(a), 0, conclusionOf(b), 0); break;
                case INST: row.addReplaced(conclusionOf(a), b, terms.all[c]); break;
                default: break;
            }
        }

        private static void writeCombined(Term row, Term p, Term q) {
            int type = Types.to(p.types[1]);
            row.add(EQ, TRUTHS);
            row.addUse(type, p, 1, q, 1);
            row.addUse(type, p, p.right(), q, q.right());
        }

        private void writeAbstracted(Term row, Term p, int v) {
            int type = Types.join(terms.nameTypes[v], p.types[1]);
            row.add(EQ, TRUTHS);
            row.addLambda(type, p, 1, v);
            row.addLambda(type, p, p.right(), v);
        }

        private static void writeReduced(Term row, Term redex) {
            row.add(EQ, TRUTHS);
            row.addPart(redex, 0);
            row.addFilled(redex, 2, redex, redex.ends[1]);
        }

        /** The HYPOTHESES that a RULE takes over as they are. */
        private void gather(int kind, int p, int q) {
            Statement says = all[made].says;
            if (kind == ASSUME) {
                says.assume(says.conclusion);
            } else if (kind == DEDUCT) {
                says.assumeThoseBut(all[p].says, all[q].says.conclusion);
                says.assumeThoseBut(all[q].says, all[p].says.conclusion);
            } else if (kind != INST) {
                if (has(p)) says.assumeThoseOf(all[p].says);
                if (has(q)) says.assumeThoseOf(all[q].says);
            }
        }

        /** The THEOREM for a GOAL, where all is known to fit and to have room. */
        int makeFor(Goal goal, int p, int q) {
            if (made >= MOST_THEOREMS) return FULL;
            begin(goal.tactic, p, q);
            all[made].says.conclude(goal.wants.conclusion);
            gather(goal.tactic, p, q);
            made++;
            return made - 1;
        }
    }

    private static final class Goal {
        final Statement wants = new Statement();
        int tactic;
        /** What EXACT has found. */
        int theorem;
        /** The first GOAL that the TACTIC left; a second one is behind it. */
        int left;
    }

    /** The GOALS, and the TACTICS that take them apart. */
    private static final class Goals {
        private final Terms terms;
        private final Rules rules;
        private final Goal[] all = new Goal[MOST_GOALS + MOST_LEFT_GOALS];
        int made;
        /** The open ones, the first one at the end. */
        private final int[] open = new int[MOST_GOALS];
        int openCount;
        /** Those that TACTICS took, the latest one at the end. */
        private final int[] taken = new int[MOST_GOALS];
        private int takenCount;

        Goals(Terms terms, Rules rules) {
            this.terms = terms;
            this.rules = rules;
            for (int g = 0; g < all.length; g++) {
                all[g] = new Goal();
            }
        }

        private void drop() {
            made = 0;
            openCount = 0;
            takenCount = 0;
        }

        void beginWith(int t) {
            drop();
            all[0].wants.begin();
            all[0].wants.conclude(t);
            open[0] = 0;
            openCount = 1;
            made = 1;
        }

        /** The k-th open one, k being below openCount. */
        Goal openGoal(int k) {
            return all[open[openCount - 1 - k]];
        }

        int attempt(int kind, int x) {
            if (openCount == 0 || !isThere(kind, x)) return REFUSED;
            Statement wants = openGoal(0).wants;
            if (!fits(kind, x, wants)) return UNFIT;
            int before = terms.made;
            leave(kind, x, wants);
            int refusal = 0;
            if (leftBig(kind)) {
                refusal = BIG;
            } else if (terms.overfull() || made + LEFT_GOALS[kind] > MOST_GOALS) {
                refusal = FULL;
            }
            if (refusal < 0) {
                terms.made = before;
                return refusal;
            }
            take(kind, x);
            return openCount;
        }

        private boolean isThere(int kind, int x) {
            switch (kind) {
                case REFL: case ASSUME: case COMB: case BETA: case DEDUCT: return true;
                case TRANS: case EQMP: return terms.has(x);
                case ABS: return isName(x);
                case EXACT: return rules.has(x);
                default: return false;
            }
        }

        private boolean fits(int kind, int x, Statement wants) {
            Term aim = terms.all[wants.conclusion];
            switch (kind) {
                case REFL: return aim.isEquation() && Term.alike(aim, 1, aim, aim.right());
                case ASSUME: return wants.assumes(wants.conclusion);
                case TRANS: return aim.isEquation() && terms.all[x].types[0] == aim.types[1];
                case COMB: return aim.isEquation() && canSplit(aim);
                case ABS: return aim.isEquation() && canName(aim, x, wants);
                case BETA: return aim.isEquation() && aim.isRedex(1) && isReduced(aim);
                case EQMP: return terms.all[x].types[0] == TRUTHS;
                case DEDUCT: return aim.isEquation() && aim.types[1] == TRUTHS;
                case EXACT: return isExact(rules.all[x].says, wants);
                default: return false;
            }
        }

        private static boolean canSplit(Term aim) {
            int right = aim.right();
            return aim.symbols[1] == APP && aim.symbols[right] == APP && aim.types[2] == aim.types[right + 1];
        }

        private boolean canName(Term aim, int v, Statement wants) {
            if (aim.symbols[1] != LAM || aim.symbols[aim.right()] != LAM) return false;
            if (terms.nameTypes[v] != Types.from(aim.types[1])) return false;
            return !aim.hasName(v) && !terms.inHypotheses(v, wants);
        }

        /** Whether the right side of an EQ is what BETA makes of the left one. */
        private boolean isReduced(Term aim) {
            Term reduced = terms.fresh();
            reduced.addFilled(aim, 3, aim, aim.ends[2]);
            if (reduced.big) return false;
            reduced.settle();
            return Term.alike(reduced, 0, aim, aim.right());
        }

        private static boolean isExact(Statement says, Statement wants) {
            return says.conclusion == wants.conclusion && wants.assumesThoseOf(says);
        }

        /** Writes the GOALS that a TACTIC leaves into the rows behind the others. */
        private void leave(int kind, int x, Statement wants) {
            Term aim = terms.all[wants.conclusion];
            Statement first = heir(wants, 0);
            Statement second = heir(wants, 1);
            int right = aim.isEquation() ? aim.right() : 0;
            switch (kind) {
                case TRANS:
                    first.conclude(terms.keepEquation(aim, 1, terms.all[x], 0));
                    second.conclude(terms.keepEquation(terms.all[x], 0, aim, right));
                    break;
                case COMB:
                    first.conclude(terms.keepEquation(aim, 2, aim, right + 1));
                    second.conclude(terms.keepEquation(aim, aim.ends[2], aim, aim.ends[right + 1]));
                    break;
                case ABS:
                    first.conclude(keepBodies(aim, terms.nameRow(x)));
                    break;
                case EQMP:
                    first.conclude(terms.keepEquation(terms.all[x], 0, aim, 0));
                    second.conclude(x);
                    break;
                case DEDUCT:
                    first.assume(terms.keepPart(aim, right));
                    first.conclude(terms.keepPart(aim, 1));
                    second.assume(first.conclusion);
                    second.conclude(terms.keepPart(aim, right));
                    break;
                default:
                    break;
            }
        }

        /** The statement of a GOAL to be left, with the HYPOTHESES of the one that is taken. */
        private Statement heir(Statement wants, int k) {
            Statement statement = all[made + k].wants;
            statement.begin();
            statement.assumeThoseOf(wants);
            return statement;
        }

        private int keepBodies(Term aim, Term name) {
            Term row = terms.fresh();
            row.add(EQ, TRUTHS);
            row.addFilled(aim, 2, name, 0);
            row.addFilled(aim, aim.right() + 1, name, 0);
            return terms.keep();
        }

        private boolean leftBig(int kind) {
            for (int k = 0; k < LEFT_GOALS[kind]; k++) {
                if (all[made + k].wants.big) return true;
            }
            return false;
        }

        private void take(int kind, int x) {
            openCount--;
            int g = open[openCount];
            all[g].tactic = kind;
            all[g].theorem = kind == EXACT ? x : NONE;
            all[g].left = made;
            taken[takenCount] = g;
            takenCount++;
            for (int k = LEFT_GOALS[kind] - 1; k >= 0; k--) {
                open[openCount] = made + k;
                openCount++;
            }
            made += LEFT_GOALS[kind];
        }

        int takeBack() {
            if (takenCount == 0) return REFUSED;
            takenCount--;
            int g = taken[takenCount];
            // What it left is open, at the front and behind all others: later TACTICS are taken back.
            made -= LEFT_GOALS[all[g].tactic];
            openCount -= LEFT_GOALS[all[g].tactic];
            open[openCount] = g;
            openCount++;
            return openCount;
        }

        int finish() {
            if (made == 0 || openCount > 0) return REFUSED;
            int needed = 0;
            for (int g = 0; g < made; g++) {
                if (all[g].tactic != EXACT) needed++;
            }
            if (rules.made + needed > MOST_THEOREMS) return FULL;
            int proof = prove(0, 0);
            drop();
            return proof;
        }

        /** The THEOREM for a GOAL; the depth stays below the number of GOALS. */
        private int prove(int g, int depth) {
            Goal done = all[g];
            if (done.tactic == EXACT || depth >= MOST_GOALS) return done.theorem;
            int left = LEFT_GOALS[done.tactic];
            int p = left > 0 ? prove(done.left, depth + 1) : NONE;
            int q = left > 1 ? prove(done.left + 1, depth + 1) : NONE;
            return rules.makeFor(done, p, q);
        }
    }
}
