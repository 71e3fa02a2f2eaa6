/** Promises 1 to 8 and 18: types, names, the draft, reading, and what TERMS are made of. */
public final class TermTest {
    private static final int APP = 8, EQ = 9, L = 10;
    private static final Check check = new Check();

    public static void main(String[] args) {
        newObject();
        functions();
        declarations();
        tokens();
        shapes();
        kinds();
        generalTypes();
        bigTypes();
        scopes();
        alikeTerms();
        fullTerms();
        looks();
        counts();
        check.end();
    }

    private static void newObject() {
        Desk x = new Desk();
        check.same("a new object", Check.counts(x), "0 0 0 0 0");
        for (int v = 0; v < 8; v++) check.due("the TYPE of NAME " + v, x.declare(v, 5), 5);
        check.due("read of an empty draft", x.read(), -2);
        check.due("term of none", x.term(0, 0), -1);
        check.due("theorem of none", x.theorem(0, 0), -1);
        check.due("open of none", x.open(0, 0), -1);
        check.due("close of none", x.close(), -1);
        check.due("undo of none", x.undo(), -1);
        check.due("repeat without GOALS", x.repeat(1), 0);
        check.due("tactic without GOALS", x.tactic(0, 0), -1);
    }

    private static void functions() {
        Desk x = new Desk();
        check.due("function(4, 4)", x.function(4, 4), 0b1_1_00_00);
        check.due("function(5, 4)", x.function(5, 4), 0b1_1_01_00);
        check.due("function(48, 5)", x.function(48, 5), 0b1_1_10000_01);
        check.due("function(5, 48)", x.function(5, 48), 0b1_1_01_10000);
        int four = x.function(x.function(4, 5), x.function(5, 4));
        check.due("four leaves", four, 0b1_1_10001_10100);
        int eight = x.function(four, four);
        check.due("23 digits", eight, 0b1_1_11000110100_11000110100);
        check.due("26 digits", x.function(eight, 4), -5);
        check.due("26 digits", x.function(4, eight), -5);
        check.due("47 digits", x.function(eight, eight), -5);
        int seven = x.function(four, x.function(4, x.function(4, 4)));
        check.due("7 leaves and 1", x.function(5, seven), 0b1_1_01_1_11000110100_1_00_1_00_00);
        for (int none : new int[] {0, 1, 2, 3, 6, 7, 8, 9, 10, 11, 12, 16, 24, 31, 32, 47, 56, 63, 64, 96, -4, -5,
                -48, Integer.MIN_VALUE, Integer.MAX_VALUE, 1 << 25, 1 << 26 | 1 << 25, (1 << 30) + 3}) {
            check.due("function(" + none + ", 4)", x.function(none, 4), -1);
            check.due("function(4, " + none + ")", x.function(4, none), -1);
            check.due("function(" + none + ", eight)", x.function(none, eight), -1);
            check.due("declare(0, " + none + ")", x.declare(0, none), -1);
        }
        for (int type : new int[] {48, 49, 52, 53}) check.due("a TYPE of five digits", x.declare(0, type) > 0 ? 1 : 0, 1);
        check.due("50 is none", x.function(50, 4), -1);
        check.due("51 is none", x.function(51, 4), -1);
    }

    private static void declarations() {
        Desk x = new Desk();
        check.due("declare(0, 4)", x.declare(0, 4), 5);
        check.due("declare(0, 48)", x.declare(0, 48), 4);
        check.due("declare(0, 5)", x.declare(0, 5), 48);
        check.due("declare(7, 4)", x.declare(7, 4), 5);
        check.due("declare(8, 4)", x.declare(8, 4), -1);
        check.due("declare(-1, 4)", x.declare(-1, 4), -1);
        x.token(0);
        check.due("declare with a draft", x.declare(1, 4), 5);
        x.read();
        check.due("declare with a TERM", x.declare(1, 5), -7);
        check.due("declare of none with a TERM", x.declare(8, 5), -1);
        check.due("declare as none with a TERM", x.declare(1, 6), -1);
        check.due("NAME 1 is as before", x.term(Check.read(x, 1), 1), 4);
    }

    private static void tokens() {
        Desk x = new Desk();
        check.due("token(-1)", x.token(-1), -1);
        check.due("token(18)", x.token(18), -1);
        for (int i = 0; i < 24; i++) check.due("token " + i, x.token(i % 18), i + 1);
        check.due("token 25", x.token(0), -6);
        check.due("token(18) of a full draft", x.token(18), -1);
        check.due("count(4)", x.count(4), 24);
        check.due("clear()", x.clear(), 24);
        check.due("clear() again", x.clear(), 0);
        check.due("token after clear", x.token(17), 1);
    }

    private static void shapes() {
        Desk x = new Desk();
        int[][] wrong = {{APP}, {EQ, 0}, {0, 0}, {L}, {APP, 0, 1, 2}, {L, 0, 0}, {EQ, EQ, 0, 1}, {0, APP}, {17}};
        for (int[] tokens : wrong) {
            check.due("a draft that is no TERM", Check.read(x, tokens), -2);
            check.due("it stays", x.clear(), tokens.length);
        }
        check.due("no TERM was made", x.count(0), 0);
        check.due("SHAPE is tested before KIND", Check.read(x, APP, 0, 0, 0), -2);
    }

    private static void kinds() {
        Desk x = new Desk();
        x.declare(0, 4);
        x.declare(2, 48);
        int[][] wrong = {{APP, 0, 0}, {APP, 2, 1}, {EQ, 0, 1}, {EQ, 2, 0}, {L + 1, APP, 1, 1},
            {APP, L + 1, APP, 1, 1, L + 1, APP, 1, 1},
            {L + 1, EQ, 1, L + 2, 1}, {APP, L + 3, EQ, 3, 0, 1}, {L + 1, EQ, APP, 2, 1, APP, 1, 0}};
        for (int[] tokens : wrong) {
            check.due("a draft without TYPES", Check.read(x, tokens), -3);
            check.due("it stays", x.clear(), tokens.length);
        }
        check.due("no TERM was made", x.count(0), 0);
        check.due("so the TYPES can still change", x.declare(1, 4), 5);
        check.due("APP 2 1 then", Check.read(x, APP, 2, 1), 0);
    }

    private static void types(String what, Desk x, int t, int... types) {
        check.due(what + ": length", x.term(t, 0), types.length);
        for (int i = 0; i < types.length; i++) check.due(what + ": TYPE " + i, x.symbol(t, i, 1), types[i]);
    }

    private static void symbols(String what, Desk x, int t, int... symbols) {
        check.due(what + ": length", x.term(t, 0), symbols.length);
        for (int i = 0; i < symbols.length; i++) check.due(what + ": SYMBOL " + i, x.symbol(t, i, 0), symbols[i]);
    }

    private static void generalTypes() {
        Desk x = new Desk();
        x.declare(0, 4);
        x.declare(2, 48);
        types("an open variable", x, Check.read(x, L + 1, 1), 53, 5);
        types("a variable of TRUTHS", x, Check.read(x, L + 1, EQ, 1, 0), 48, 4, 4, 4);
        types("found by its use", x, Check.read(x, L + 1, APP, 2, 1), 48, 4, 48, 4);
        types("a function that is open", x, Check.read(x, L + 1, APP, 1, 0), 0b1_1_1_00_01_01, 5, 0b1_1_00_01, 4);
        types("by the other side", x, Check.read(x, EQ, 2, L + 1, 1), 4, 48, 48, 4);
        types("by what it is used on", x, Check.read(x, APP, L + 1, 1, 2), 48, 0b1_1_10000_10000, 48, 48);
        types("not in its body", x, Check.read(x, APP, L + 1, 1, 0), 4, 48, 4, 4);
        types("not in its body, used", x, Check.read(x, APP, L + 1, 3, 0), 5, 0b1_1_00_01, 5, 4);
        // LAM x LAM y LAM z: x z (y z)
        types("S", x, Check.read(x, L, L + 1, L + 2, APP, APP, 0, 2, APP, 1, 2),
            0b1_1_1_01_1_01_01_1_1_01_01_1_01_01, 0b1_1_1_01_01_1_01_01, 53, 5, 0b1_1_01_01, 0b1_1_01_1_01_01, 5, 5, 53, 5);
    }

    private static void bigTypes() {
        Desk x = new Desk();
        int[] open = {L, L, L, L, L, L, L, 0};
        types("seven LAMs", x, Check.read(x, open), 0b1_1_01_1_01_1_01_1_01_1_01_1_01_1_01_01,
            0b1_1_01_1_01_1_01_1_01_1_01_1_01_01, 0b1_1_01_1_01_1_01_1_01_1_01_01, 0b1_1_01_1_01_1_01_1_01_01,
            0b1_1_01_1_01_1_01_01, 0b1_1_01_1_01_01, 0b1_1_01_01, 5);
        check.due("eight LAMs", Check.read(x, L, L, L, L, L, L, L, L, 0), -5);
        check.due("its draft stays", x.clear(), 9);
        check.due("a PART that is big, in a TERM of THINGS",
            Check.read(x, APP, L + 1, 1, APP, L + 2, 3, L, L, L, L, L, L, L, L, 0), -5);
        check.due("no TYPES before BIG", Check.read(x, EQ, APP, 0, 0, L, L, L, L, L, L, L, L, 0), -3);
        check.due("within itself and big: KIND",
            Check.read(x, L + 1, EQ, L, L, L, L, L, L, L, L, 0, APP, 1, 1), -3);
        // LAM f LAM x: f (f x), used on itself: each time the TYPE is twice as long.
        int t = Check.read(x, APP, L + 1, L + 2, APP, 1, APP, 1, 2, L + 1, L + 2, APP, 1, APP, 1, 2);
        check.due("two of two", t, 1);
        check.due("two of two is of FUNCTIONS", x.term(t, 1), 0b1_1_1_01_01_1_01_01);
        check.due("two of two has 23 digits in it", x.symbol(t, 1, 1), 0b1_1_1_1_01_01_1_01_01_1_1_01_01_1_01_01);
        check.due("two of two of two", Check.read(x, APP, APP, L + 1, L + 2, APP, 1, APP, 1, 2,
            L + 1, L + 2, APP, 1, APP, 1, 2, L + 1, L + 2, APP, 1, APP, 1, 2), -5);
        check.due("two TERMS were made", x.count(0), 2);
    }

    private static void scopes() {
        Desk x = new Desk();
        symbols("the NAME itself", x, Check.read(x, L, 1), 10, 1);
        symbols("the variable", x, Check.read(x, L + 1, 1), 10, 11);
        symbols("two", x, Check.read(x, L, L + 1, EQ, 0, 1), 10, 10, 9, 12, 11);
        symbols("an inner LAM of the same NAME", x, Check.read(x, L, L, 0), 10, 10, 11);
        symbols("behind the inner LAM", x, Check.read(x, L, APP, L, 0, 0), 10, 8, 10, 11, 11);
        symbols("outside", x, Check.read(x, APP, L, 0, 0), 8, 10, 11, 0);
        symbols("the outer one of three", x, Check.read(x, L + 7, L + 6, L + 7, EQ, 6, 7), 10, 10, 10, 9, 12, 11);
        symbols("far", x, Check.read(x, L + 3, L, L, L, L, 3), 10, 10, 10, 10, 10, 15);
    }

    private static void alikeTerms() {
        Desk x = new Desk();
        x.declare(0, 4);
        check.due("LAM 3 3", Check.read(x, L + 3, 3), 0);
        check.due("LAM 4 4", Check.read(x, L + 4, 4), 0);
        check.due("its draft is gone", x.count(4), 0);
        check.due("APP of LAM 3 3 and 0", Check.read(x, APP, L + 3, 3, 0), 1);
        check.due("APP of LAM 0 0 and 1", Check.read(x, APP, L, 0, 1), 2);
        check.due("APP of LAM 7 7 and 0", Check.read(x, APP, L + 7, 7, 0), 1);
        check.due("two NAMES", Check.read(x, 2), 3);
        check.due("of the same TYPE", Check.read(x, 3), 4);
        // The same SYMBOLS of other TYPES: a TACTIC takes the first one out of an APP, where it is on TRUTHS.
        x.goal(Check.read(x, EQ, APP, L + 1, 1, 0, APP, L + 1, 1, 0));
        x.tactic(3, 0);
        int truths = x.open(0, 0);
        int things = Check.read(x, EQ, L + 1, 1, L + 1, 1);
        symbols("on TRUTHS", x, truths, 9, 10, 11, 10, 11);
        symbols("on THINGS", x, things, 9, 10, 11, 10, 11);
        types("on TRUTHS", x, truths, 4, 48, 4, 48, 4);
        types("on THINGS", x, things, 4, 53, 5, 53, 5);
        check.due("both are TERMS", x.count(0), 9);
        check.due("TRANS of one and the other",
            x.rule(2, x.rule(1, truths, 0, 0), x.rule(1, things, 0, 0), 0), -4);
    }

    private static void fullTerms() {
        Desk x = new Desk();
        for (int i = 0; i < 64; i++) check.due("TERM " + i, Check.read(x, EQ, i / 8, i % 8), i);
        check.due("a new one", Check.read(x, 0), -6);
        check.due("its draft stays", x.clear(), 1);
        check.due("an old one", Check.read(x, EQ, 3, 4), 28);
        check.due("SHAPE", Check.read(x, EQ, 3), -2);
        check.due("KIND", Check.read(x, APP, 3, 3), -3);
        check.due("BIG is tested before FULL", Check.read(x, L, L, L, L, L, L, L, L, 0), -5);
        check.due("count(0)", x.count(0), 64);
        check.due("TERM 64", x.term(64, 0), -1);
        check.due("TERM 63", x.term(63, 0), 3);
    }

    private static void looks() {
        Desk x = new Desk();
        x.declare(2, 0b1_1_01_01);
        int t = Check.read(x, EQ, APP, 2, APP, 2, 7, APP, L, 0, 5);
        check.due("how many", x.term(t, 0), 10);
        check.due("its TYPE", x.term(t, 1), 4);
        check.due("its NAMES", x.term(t, 2), 4 + 128 + 32);
        check.due("how deep", x.term(t, 3), 4);
        check.due("what 4", x.term(t, 4), -1);
        check.due("what -1", x.term(t, -1), -1);
        check.due("TERM 1", x.term(1, 0), -1);
        check.due("TERM -1", x.term(-1, 0), -1);
        check.due("SYMBOL 0", x.symbol(t, 0, 0), 9);
        check.due("SYMBOL 9", x.symbol(t, 9, 0), 5);
        check.due("TYPE 2", x.symbol(t, 2, 1), 53);
        check.due("SYMBOL 10", x.symbol(t, 10, 0), -1);
        check.due("SYMBOL -1", x.symbol(t, -1, 0), -1);
        check.due("SYMBOL what 2", x.symbol(t, 0, 2), -1);
        check.due("SYMBOL what -1", x.symbol(t, 0, -1), -1);
        check.due("SYMBOL of TERM 1", x.symbol(1, 0, 0), -1);
        check.due("a NAME is 1 deep", x.term(Check.read(x, 0), 3), 1);
        check.due("a NAME has itself", x.term(Check.read(x, 3), 2), 8);
        check.due("a LAM is 2 deep", x.term(Check.read(x, L, 0), 3), 2);
        check.due("a variable is no NAME", x.term(Check.read(x, L + 4, 4), 2), 0);
        int[] longest = new int[24];
        for (int i = 0; i < 22; i += 2) {
            longest[i] = APP;
            longest[i + 1] = 2;
        }
        longest[22] = 6;
        int odd = Check.read(x, java.util.Arrays.copyOf(longest, 23));
        check.due("23 SYMBOLS", x.term(odd, 0), 23);
        check.due("12 deep", x.term(odd, 3), 12);
        int[] even = new int[24];
        even[0] = L;
        System.arraycopy(longest, 0, even, 1, 23);
        check.due("24 SYMBOLS", x.term(Check.read(x, even), 0), 24);
    }

    private static void counts() {
        Desk x = new Desk();
        int t = Check.read(x, EQ, 0, 0);
        x.rule(0, t, 0, 0);
        x.rule(0, t, 0, 0);
        x.goal(t);
        x.token(3);
        check.same("each has its place", Check.counts(x), "2 2 1 1 1");
        x.tactic(0, 0);
        check.due("GOALS", x.count(2), 1);
        check.due("open GOALS", x.count(3), 0);
        check.due("count(5)", x.count(5), -1);
        check.due("count(-1)", x.count(-1), -1);
    }
}
