/** The edges of promises 1 to 8 and 18, sentence by sentence. */
public final class TermEdgeTest extends Edges {
    public static void main(String[] args) {
        newObjectHasNothing();
        newObjectIsItsOwn();
        functionTakes();
        functionRefusesNone();
        functionBig();
        declareTakes();
        declareRefuses();
        declareLate();
        tokenRefuses();
        tokenFull();
        clears();
        readTakes();
        readShape();
        readKind();
        readBig();
        readFull();
        readTestsInOrder();
        readFindsVariables();
        termRefuses();
        termAtItsEdges();
        symbolRefuses();
        countRefuses();
        theLastCall();
        end();
    }

    /** A TYPE of so many leaves, all THINGS, each function from THINGS. */
    private static int type(int leaves) {
        StringBuilder digits = new StringBuilder("01");
        for (int i = 1; i < leaves; i++) digits.insert(0, "101");
        return Model.numberOf(digits.toString());
    }

    // 1: No TERMS, no THEOREMS, no GOALS, an empty draft; all NAMES have the TYPE THINGS.

    private static void newObjectHasNothing() {
        for (int what = 0; what < 5; what++) takes("new: count(" + what + ")", NEW, count(what), 0);
        for (int v = 0; v < 8; v++) {
            int n = v;
            takes("new: NAME " + v + " has the TYPE THINGS", NEW, x -> x.declare(n, 4), 5);
        }
        for (int what = 0; what < 4; what++) refuses("new: no TERMS", NEW, term(0, what), REFUSED);
        refuses("new: no SYMBOLS", NEW, symbol(0, 0, 0), REFUSED);
        for (int kind = 0; kind < 9; kind++) {
            refuses("new: nothing for rule " + kind, NEW, rule(kind, 0, 0, 0), REFUSED);
            refuses("new: no GOALS for tactic " + kind, NEW, tactic(kind, 0), REFUSED);
        }
        for (int what = 0; what < 6; what++) refuses("new: no THEOREMS", NEW, theorem(0, what), REFUSED);
        refuses("new: no HYPOTHESES", NEW, hypothesis(0, 0), REFUSED);
        refuses("new: no TERM for goal", NEW, goal(0), REFUSED);
        for (int what = 0; what < 3; what++) refuses("new: no open GOALS", NEW, open(0, what), REFUSED);
        refuses("new: no TACTIC", NEW, Desk::undo, REFUSED);
        refuses("new: no GOALS to close", NEW, Desk::close, REFUSED);
        refuses("new: an empty draft is no TERM", NEW, Desk::read, SHAPE);
        takes("new: an empty draft", NEW, Desk::clear, 0);
        for (int n : new int[] {1, 8}) takes("new: none is open for repeat", NEW, x -> x.repeat(n), 0);
    }

    private static void newObjectIsItsOwn() {
        same("a new object beside a used one", NEW, x -> {
            Desk other = new Desk();
            names(other);
            other.goal(read(other, EQ, 0, 0));
            other.rule(ASSUME, 0, 0, 0);
            other.tactic(REFL, 0);
            other.token(3);
        });
    }

    // 2: function

    private static void functionTakes() {
        Desk x = new Desk();
        for (int number = -5; number < 4096; number++) {
            if (x.left() < 4) x = new Desk();
            String type = Model.typeOf(number);
            int n = number;
            Desk y = x;
            takes("function(" + n + ", 4)", NEW, z -> y.function(n, 4), type == null ? -1 : Model.numberOf("1" + type + "00"));
            takes("function(5, " + n + ")", NEW, z -> y.function(5, n), type == null ? -1 : Model.numberOf("101" + type));
            takes("declare(2, " + n + ")", NEW, z -> y.declare(2, n) > 0 ? 1 : 0, type == null ? 0 : 1);
        }
        // 23 digits is the most that a TYPE can have: with another leaf it has 26.
        for (int leaves = 1; leaves < 8; leaves++) {
            int from = type(leaves), to = type(8 - leaves);
            int due = Model.numberOf("1" + Model.typeOf(from) + Model.typeOf(to));
            takes("function of " + leaves + " leaves and the rest of 8", NEW, y -> y.function(from, to), due);
        }
    }

    private static void functionRefusesNone() {
        int nine = 0b1_1_01_1_01_1_01_1_01_1_01_1_01_1_01_1_01_01, twelveDigits = 0b1_1_00_1_00_1_00_000;
        int mostOf23 = 0b1_1111111_01_01_01_01_01_01_01_01, leastOf23 = 0b1_1_00_1_00_1_00_1_00_1_00_1_00_1_00_00;
        int[] none = {0, 1, 2, 3, 6, 7, 8, 47, 50, 51, 54, 63, -4, -5, -48, LEAST, MOST, twelveDigits, nine, mostOf23 + 1,
            leastOf23 + 2, leastOf23 - 1, mostOf23 << 1, 1 << 24, 1 << 25, (1 << 25) + 1, 1 << 26, 1 << 30, (1 << 30) + 1,
            (1 << 31) + 4, (1 << 31) + 5};
        for (int n : none) {
            refuses("function: REFUSED if one is none, " + n, NEW, x -> x.function(n, 5), REFUSED);
            refuses("function: REFUSED if the other is none, " + n, NEW, x -> x.function(4, n), REFUSED);
            refuses("function: REFUSED if both are none, " + n, NEW, x -> x.function(n, n), REFUSED);
            refuses("function: REFUSED before BIG, " + n, NEW, x -> x.function(n, type(8)), REFUSED);
            refuses("function: REFUSED before BIG, and " + n, NEW, x -> x.function(type(8), n), REFUSED);
            refuses("declare: REFUSED if type is none, " + n, NEW, x -> x.declare(0, n), REFUSED);
        }
        takes("the most of 23 digits is a TYPE", NEW, x -> x.declare(0, mostOf23), 5);
        takes("the least of 23 digits is a TYPE", NEW, x -> x.declare(0, leastOf23), 5);
        takes("leastOf23 + 1 is a TYPE", NEW, x -> x.declare(0, leastOf23 + 1), 5);
    }

    private static void functionBig() {
        for (int from = 1; from < 9; from++) {
            for (int to = 9 - from; to < 9; to++) {
                int a = type(from), b = type(to);
                refuses("function: BIG of " + from + " and " + to + " leaves", NEW, x -> x.function(a, b), BIG);
            }
        }
        same("function: what it answers changes nothing", NEW, x -> x.function(4, 48));
    }

    // 3: declare

    private static void declareTakes() {
        for (int v : new int[] {0, 7}) {
            takes("declare: v is 0..7", NEW, x -> x.declare(v, 4), 5);
            takes("declare: the one before", x -> x.declare(v, 48), x -> x.declare(v, 5), 48);
            takes("declare: the one before, the same again", x -> x.declare(v, 4), x -> x.declare(v, 4), 4);
            takes("declare: a TYPE of 23 digits", x -> x.declare(v, type(8)), x -> x.declare(v, 5), type(8));
            takes("declare: the other NAMES stay", x -> x.declare(v, 4), x -> x.declare(3, 4), 5);
            takes("declare: the NAME has it", x -> x.declare(v, type(8)), x -> x.term(read(x, v), 1), type(8));
        }
    }

    private static void declareRefuses() {
        for (int v : new int[] {-1, 8, 9, LEAST, MOST}) {
            refuses("declare: REFUSED if v is " + v, NEW, x -> x.declare(v, 4), REFUSED);
            refuses("declare: REFUSED if v is " + v + " and type none", NEW, x -> x.declare(v, 3), REFUSED);
        }
    }

    private static void declareLate() {
        Run one = after(Edges::names, reads(row(4)));
        for (int v = 0; v < 8; v++) {
            int n = v;
            refuses("declare: LATE if there is a TERM, NAME " + v, one, x -> x.declare(n, 4), LATE);
            refuses("declare: LATE with the TYPE that it has", one, x -> x.declare(n, 5), LATE);
        }
        for (int v : new int[] {-1, 8, LEAST, MOST}) {
            refuses("declare: REFUSED for v before LATE", one, x -> x.declare(v, 4), REFUSED);
        }
        for (int type : new int[] {3, 6, 7, 47, LEAST, MOST}) {
            refuses("declare: REFUSED for type before LATE", one, x -> x.declare(4, type), REFUSED);
        }
        takes("declare: a draft is no TERM", writes(0, 1), x -> x.declare(0, 4), 5);
        takes("declare: one that no read made", x -> read(x, APP, 0, 0), x -> x.declare(0, 4), 5);
        takes("declare: the draft is read with the new TYPE",
            x -> {
                x.token(2);
                x.declare(2, 48);
            }, x -> x.term(x.read(), 1), 48);
    }

    // 4: token, and 5: clear

    private static void tokenRefuses() {
        for (int t = 0; t < 18; t++) {
            int n = t;
            takes("token: " + t + " is one", NEW, x -> x.token(n), 1);
            takes("token: " + t + " behind another one", writes(9), x -> x.token(n), 2);
        }
        for (int t : new int[] {-1, 18, 19, LEAST, MOST}) {
            refuses("token: REFUSED if t is " + t, NEW, x -> x.token(t), REFUSED);
            refuses("token: REFUSED if t is " + t + ", in a draft", writes(EQ, 1), x -> x.token(t), REFUSED);
        }
    }

    private static void tokenFull() {
        int[] whole = join(row(L), thing(23));
        Run names = Edges::names;
        for (int t = 0; t < 18; t++) {
            int n = t;
            takes("token: the 24th, " + t, writes(new int[23]), x -> x.token(n), 24);
            refuses("token: FULL if there are 24, " + t, after(names, writes(whole)), x -> x.token(n), FULL);
        }
        for (int t : new int[] {-1, 18, LEAST, MOST}) {
            refuses("token: REFUSED before FULL", after(names, writes(whole)), x -> x.token(t), REFUSED);
        }
        takes("token: after read there is room again", after(names, reads(whole)), x -> x.token(0), 1);
        takes("token: after clear there is room again", x -> {
            writes(whole).on(x);
            x.clear();
            writes(new int[23]).on(x);
        }, x -> x.token(17), 24);
    }

    private static void clears() {
        takes("clear: of none", NEW, Desk::clear, 0);
        takes("clear: of one", writes(17), Desk::clear, 1);
        takes("clear: of 23", writes(new int[23]), Desk::clear, 23);
        takes("clear: of 24", writes(new int[24]), Desk::clear, 24);
        takes("clear: of 24, after a token that was refused", writes(new int[25]), Desk::clear, 24);
        takes("clear: again", x -> {
            writes(new int[24]).on(x);
            x.clear();
        }, Desk::clear, 0);
        takes("clear: after read", reads(row(EQ, 1, 2)), Desk::clear, 0);
        takes("clear: after a read that was refused", reads(row(EQ, 1)), Desk::clear, 2);
        Run much = x -> {
            names(x);
            x.goal(read(x, EQ, APP, 3, 4, APP, 3, 5));
            x.rule(ASSUME, 0, 0, 0);
            x.tactic(COMB, 0);
        };
        same("clear: the draft is empty then, all else stays", much, x -> {
            much.on(x);
            writes(EQ, 1, 2, L).on(x);
            x.clear();
        });
    }

    // 6: read

    private static void readTakes() {
        for (int v = 0; v < 8; v++) takes("read: 1 SYMBOL", writes(v), Desk::read, 0);
        takes("read: 23 SYMBOLS", after(Edges::names, writes(thing(23))), Desk::read, 0);
        takes("read: 24 SYMBOLS", after(Edges::names, writes(thing(24))), Desk::read, 0);
        takes("read: 24 SYMBOLS are all there", after(Edges::names, reads(thing(24))), term(0, 0), 24);
        takes("read: the draft is empty then", reads(row(EQ, 1, 2)), count(4), 0);
        takes("read: empty where the TERM was there", reads(row(1), row(1)), count(4), 0);
        takes("read: the next number", reads(row(1)), x -> read(x, 2), 1);
        takes("read: ALIKE to an earlier one", reads(row(1), row(2)), x -> read(x, 1), 0);
    }

    private static void readShape() {
        refuses("read: SHAPE, empty", NEW, Desk::read, SHAPE);
        refuses("read: SHAPE, empty after clear", x -> {
            x.token(0);
            x.clear();
        }, Desk::read, SHAPE);
        refuses("read: SHAPE, empty after read", reads(row(0)), Desk::read, SHAPE);
        int[][] wrong = {{APP}, {EQ}, {L}, {L + 7}, {APP, 0}, {EQ, 0}, {EQ, L, 0}, {L, L}, {EQ, EQ, 0, 0}, {APP, L, 0},
            {0, 0}, {0, APP}, {EQ, 0, 0, 0}, {L, 0, 0}, {L, 0, L}, {EQ, 0, 0, EQ, 0, 0}, {0, EQ, 0, 0},
            new int[24], join(thing(23), row(4)), join(row(EQ), thing(23))};
        for (int[] draft : wrong) {
            refuses("read: SHAPE of " + java.util.Arrays.toString(draft), after(Edges::names, writes(draft)), Desk::read, SHAPE);
        }
    }

    private static void readKind() {
        int[][] wrong = {{APP, 0, 0}, {APP, 4, 4}, {APP, 2, 4}, {APP, 3, 0}, {APP, 2, 2}, {APP, APP, 3, 4, 4}, {EQ, 0, 4},
            {EQ, 4, 0}, {EQ, 2, 3}, {EQ, 3, 4}, {EQ, EQ, 4, 4, 4}, {L, APP, 0, 0}, {L + 4, EQ, 4, L, 4},
            {L + 4, EQ, APP, 2, 4, APP, 3, 4}, {L + 4, L + 5, EQ, APP, 4, 5, APP, 5, 4}, {L + 4, EQ, APP, 4, 0, APP, 4, 5},
            {APP, L + 4, APP, 2, 4, 5}, {EQ, L + 4, 4, L + 4, L + 5, 4}, {APP, L + 4, APP, 4, 4, L + 4, APP, 4, 4},
            {APP, 3, L + 4, 4}, {EQ, 0, L + 4, 4}, {EQ, 4, 3}, {EQ, 0, 2}, {EQ, 4, L + 4, 4}, {EQ, L + 4, 4, 4}, {EQ, L + 4, 4, 0},
            {L + 4, L + 5, EQ, EQ, 4, 0, EQ, 4, APP, 5, APP, 4, 0}, {EQ, APP, 3, 4, 3}, {EQ, 3, APP, 3, 4}};
        for (int[] draft : wrong) {
            refuses("read: KIND of " + java.util.Arrays.toString(draft), after(Edges::names, writes(draft)), Desk::read, KIND);
        }
    }

    /** A LAM for each token: 8 of them make a TYPE of 26 digits of THINGS. */
    private static int[] lambdas(int n) {
        int[] draft = new int[n + 1];
        java.util.Arrays.fill(draft, 0, n, L);
        draft[n] = 4;
        return draft;
    }

    private static void readBig() {
        takes("read: a TYPE of 23 digits", writes(lambdas(7)), Desk::read, 0);
        takes("read: it has them", reads(lambdas(7)), term(0, 1), type(8));
        for (int n : new int[] {8, 9, 23}) refuses("read: BIG of " + n + " LAMs", writes(lambdas(n)), Desk::read, BIG);
        Run longName = x -> x.declare(1, type(8));
        takes("read: a NAME of 23 digits", after(longName, writes(1)), Desk::read, 0);
        refuses("read: BIG, LAM and a NAME of 23 digits", after(longName, writes(L, 1)), Desk::read, BIG);
        takes("read: EQ of NAMES of 23 digits", after(longName, writes(L, EQ, 1, 1)), Desk::read, 0);
        refuses("read: BIG, a variable of 23 digits", after(longName, writes(L, EQ, 0, 1)), Desk::read, BIG);
        takes("read: a variable of 20 digits", after(x -> x.declare(1, type(7)), writes(L, EQ, 0, 1)), Desk::read, 0);
        refuses("read: BIG, a PART in a TERM of THINGS", after(longName, writes(APP, L, 4, 1)), Desk::read, BIG);
        takes("read: the same with 20 digits", after(x -> x.declare(1, type(7)), writes(APP, L, 4, 1)), Desk::read, 0);
        refuses("read: BIG, a PART in an EQ",
            writes(join(row(EQ), lambdas(8), lambdas(8))), Desk::read, BIG);
        refuses("read: BIG, a PART that no other one tells of",
            writes(join(row(APP, L, 4, APP, L, 4), lambdas(8))), Desk::read, BIG);
        int[] two = {L + 1, L + 2, APP, 1, APP, 1, 2};
        takes("read: two of two has 23 digits", writes(join(row(APP), two, two)), Desk::read, 0);
        refuses("read: BIG, two of two of two",
            writes(join(row(APP, APP), two, two, two)), Desk::read, BIG);
    }

    private static void readFull() {
        Run almost = after(Edges::names, fill(63)), full = after(Edges::names, fill(64));
        takes("read: 63 are there", almost, count(0), 63);
        takes("read: the 64th", after(almost, writes(APP, 3, 4)), Desk::read, 63);
        refuses("read: FULL if it is new, and 64 are there", after(full, writes(APP, 3, 4)), Desk::read, FULL);
        refuses("read: FULL, of 24 SYMBOLS", after(full, writes(thing(24))), Desk::read, FULL);
        takes("read: the first one again", after(full, writes(0)), Desk::read, 0);
        takes("read: one in the middle again", after(full, writes(EQ, 7, 7)), Desk::read, 31);
        takes("read: the last one again", after(full, writes(L, L, EQ, 7, 7)), Desk::read, 63);
        takes("read: the last one again, no other", after(full, reads(row(L, L, EQ, 7, 7))), count(0), 64);
        // COMB makes EQ of LAMs on TRUTHS; read, the same SYMBOLS are on THINGS.
        Run onTruths = x -> {
            names(x);
            x.goal(read(x, EQ, APP, L, 0, 0, APP, L, 0, 0));
            x.tactic(COMB, 0);
        };
        takes("read: new, since its TYPES are others", after(onTruths, fill(63), writes(EQ, L, 0, L, 0)), Desk::read, 63);
        refuses("read: FULL, since its TYPES are others", after(onTruths, fill(64), writes(EQ, L, 0, L, 0)), Desk::read, FULL);
    }

    private static void readTestsInOrder() {
        Run full = after(Edges::names, fill(64));
        int[] big = lambdas(8);
        int[] shapeAndKind = {APP, 0, 0, 0}, kind = {APP, 0, 0}, kindAndBig = join(row(EQ, 0), big);
        refuses("read: SHAPE before KIND", after(Edges::names, writes(shapeAndKind)), Desk::read, SHAPE);
        refuses("read: SHAPE before KIND, too short", after(Edges::names, writes(EQ, APP, 0, 0)), Desk::read, SHAPE);
        refuses("read: SHAPE before BIG", writes(join(big, row(0))), Desk::read, SHAPE);
        refuses("read: SHAPE before BIG, too short", writes(join(row(EQ), big)), Desk::read, SHAPE);
        refuses("read: SHAPE before FULL", after(full, writes(EQ, 0)), Desk::read, SHAPE);
        refuses("read: SHAPE before FULL, empty", full, Desk::read, SHAPE);
        refuses("read: KIND before BIG", after(Edges::names, writes(kindAndBig)), Desk::read, KIND);
        refuses("read: KIND before BIG, the other way",
            after(Edges::names, writes(join(row(EQ), big, row(0)))), Desk::read, KIND);
        refuses("read: KIND of a TYPE within itself before BIG",
            writes(join(row(APP, L + 4, L + 1, APP, 1, 1), big)), Desk::read, KIND);
        refuses("read: KIND before FULL", after(full, writes(kind)), Desk::read, KIND);
        refuses("read: BIG before FULL", after(full, writes(big)), Desk::read, BIG);
    }

    /** 10 + v is a LAM whose variable is called v in its body (where an inner LAM does not call its own so). */
    private static void readFindsVariables() {
        for (int v = 0; v < 8; v++) {
            int w = (v + 1) % 8;
            takes("LAM " + v + ": its variable", reads(row(L + v, v)), symbol(0, 1, 0), 11);
            takes("LAM " + v + ": another NAME", reads(row(L + v, w)), symbol(0, 1, 0), w);
            takes("the outer variable", reads(row(L + v, L + w, v)), symbol(0, 2, 0), 12);
            takes("the inner one of the same NAME", reads(row(L + v, L + v, v)), symbol(0, 2, 0), 11);
            takes("behind the body the NAME is itself", reads(row(EQ, APP, L + v, v, w, v)), symbol(0, 5, 0), v);
            takes("behind the inner body it is the outer one", reads(row(L + v, EQ, APP, L + v, v, w, v)), symbol(0, 6, 0), 11);
        }
        // Seven LAMs around, each used at once, so that no TYPE is long.
        Run truths = x -> x.declare(0, 4);
        int[] seven = {L + 1, APP, L + 2, APP, L + 3, APP, L + 4, APP, L + 5, APP, L + 6, APP, L + 7, EQ, 1, 7, 0, 0, 0, 0, 0, 0};
        takes("seven LAMs around", after(truths, reads(seven)), symbol(0, 14, 0), 17);
        takes("the innermost of seven", after(truths, reads(seven)), symbol(0, 15, 0), 11);
        // LAM 7, then six and five other ones around: 11 between the variable and its own.
        int[] twelve = {L + 7, L, L, L, L, L, L, APP, L, APP, L, APP, L, APP, L, APP, L, 7, 1, 1, 1, 1, 1};
        takes("twelve LAMs around", reads(twelve), symbol(0, 17, 0), 22);
        takes("what is left open is THINGS", reads(row(L, 0)), symbol(0, 1, 1), 5);
        takes("what is left open in a function is THINGS", reads(row(L, APP, 0, 1)), symbol(0, 2, 1), 53);
        takes("what EQ says is TRUTHS", reads(row(L, EQ, 0, EQ, 1, 1)), symbol(0, 2, 1), 4);
    }

    // 7: term, 8: symbol and 18: count

    private static void termRefuses() {
        Run one = reads(row(EQ, 1, 2)), full = after(Edges::names, fill(64));
        for (int what = 0; what < 4; what++) {
            int w = what;
            for (int t : new int[] {-1, 1, 2, 63, 64, LEAST, MOST}) {
                refuses("term: REFUSED for TERM " + t + " of one", one, term(t, w), REFUSED);
            }
            takes("term: the last of 64", full, x -> x.term(63, w) > 0 || w == 2 ? 1 : 0, 1);
            for (int t : new int[] {-1, 64, 65, 71, 72, LEAST, MOST}) {
                refuses("term: REFUSED for TERM " + t + " of 64", full, term(t, w), REFUSED);
            }
        }
        for (int what : new int[] {-1, 4, 5, LEAST, MOST}) {
            refuses("term: REFUSED for what " + what, one, term(0, what), REFUSED);
            refuses("term: REFUSED for both", one, term(1, what), REFUSED);
        }
    }

    private static void termAtItsEdges() {
        Run least = reads(row(7)), most = after(Edges::names, reads(join(row(L), thing(23))));
        int[] due = {1, 5, 128, 1};
        for (int what = 0; what < 4; what++) takes("term: of one SYMBOL, what " + what, least, term(0, what), due[what]);
        int[] dueMost = {24, 53, 24, 13};
        for (int what = 0; what < 4; what++) takes("term: of 24 SYMBOLS, what " + what, most, term(0, what), dueMost[what]);
        takes("term: no NAMES in it", reads(row(L + 3, 3)), term(0, 2), 0);
        takes("term: all NAMES in it", reads(row(EQ, EQ, EQ, 0, 1, EQ, 2, 3, EQ, EQ, 4, 5, EQ, 6, 7)), term(0, 2), 255);
        takes("term: a NAME twice is in it once", reads(row(EQ, 3, 3)), term(0, 2), 8);
        takes("term: a NAME beside its namesake", reads(row(APP, L + 3, 3, 3)), term(0, 2), 8);
        takes("term: the first PART is the deepest", reads(row(EQ, EQ, EQ, 0, 0, EQ, 0, 0, EQ, 0, 0)), term(0, 3), 4);
        takes("term: the first PART is deeper", reads(row(EQ, APP, L, 0, 0, 0)), term(0, 3), 4);
        takes("term: the second PART is deeper", reads(row(EQ, 0, APP, L, 0, 0)), term(0, 3), 4);
        int[] deepest = row(APP, L, APP, L, APP, L, APP, L, APP, L, APP, L, APP, L, 1, 1, 1, 1, 1, 1, 1, 1);
        takes("term: LAMs and APPs", reads(deepest), term(0, 3), 15);
    }

    private static void symbolRefuses() {
        Run two = reads(row(EQ, 1, 2), row(5)), full = after(Edges::names, fill(64));
        for (int what = 0; what < 2; what++) {
            int w = what;
            for (int t : new int[] {-1, 2, 64, LEAST, MOST}) {
                refuses("symbol: REFUSED for TERM " + t, two, symbol(t, 0, w), REFUSED);
            }
            for (int t : new int[] {-1, 64, 71, 72}) {
                refuses("symbol: REFUSED for TERM " + t + " of 64", full, symbol(t, 0, w), REFUSED);
            }
            for (int i : new int[] {-1, 3, 4, 23, 24, LEAST, MOST}) {
                refuses("symbol: REFUSED for SYMBOL " + i + " of 3", two, symbol(0, i, w), REFUSED);
            }
            refuses("symbol: REFUSED for SYMBOL 1 of 1", two, symbol(1, 1, w), REFUSED);
        }
        for (int what : new int[] {-1, 2, 3, LEAST, MOST}) {
            refuses("symbol: REFUSED for what " + what, two, symbol(0, 0, what), REFUSED);
        }
        takes("symbol: the first", two, symbol(0, 0, 0), 9);
        takes("symbol: the last", two, symbol(0, 2, 0), 2);
        takes("symbol: the TYPE of the first", two, symbol(0, 0, 1), 4);
        takes("symbol: the TYPE of the last", two, symbol(0, 2, 1), 5);
        Run most = after(Edges::names, reads(join(row(L), thing(23))));
        takes("symbol: number 23", most, symbol(0, 23, 0), 4);
        takes("symbol: the TYPE of number 23", most, symbol(0, 23, 1), 5);
        refuses("symbol: REFUSED for number 24", most, symbol(0, 24, 0), REFUSED);
        takes("symbol: of the last TERM of 64", full, symbol(63, 4, 0), 7);
    }

    private static void countRefuses() {
        Run some = x -> {
            x.goal(read(x, EQ, 1, 2));
            x.token(3);
            x.tactic(TRANS, x.read());
            x.rule(ASSUME, 0, 0, 0);
            for (int i = 0; i < 7; i++) x.token(i);
        };
        int[] due = {4, 1, 3, 2, 7};
        for (int what = 0; what < 5; what++) takes("count: what " + what, some, count(what), due[what]);
        for (int what : new int[] {-1, 5, 6, LEAST, MOST}) refuses("count: REFUSED for what " + what, some, count(what), REFUSED);
        takes("count: 64 TERMS", after(Edges::names, fill(64)), count(0), 64);
        takes("count: 40 THEOREMS", after(reads(row(EQ, 1, 2)), assumeUpTo(40, 0)), count(1), 40);
        takes("count: 24 tokens", writes(new int[24]), count(4), 24);
    }

    /** An object is used for at most 512 calls: the last ones of them are answered like all others. */
    private static void theLastCall() {
        Run busy = x -> {
            while (x.left() > 10) {
                x.token(17);
                x.clear();
            }
        };
        takes("calls 503 to 512", busy, x -> {
            x.declare(7, 53);
            x.token(EQ);
            x.token(7);
            x.token(7);
            int t = x.read();
            x.goal(t);
            x.tactic(REFL, 0);
            x.close();
            x.rule(ASSUME, t, 0, 0);
            return x.theorem(1, 1) * 10 + x.left();
        }, 10);
    }
}
