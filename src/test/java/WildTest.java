/** Every call with numbers far out of range, in many states and beyond the 512th call: none throws, none changes anything. */
public final class WildTest {
    private static final int[] WILD = {Integer.MIN_VALUE, Integer.MIN_VALUE + 1, -100, -2, -1, 64, 65, 100, 1 << 25,
        1 << 26, 1 << 30, Integer.MAX_VALUE - 1, Integer.MAX_VALUE};
    private static final Check check = new Check();

    public static void main(String[] args) {
        SequentDesk x = new SequentDesk();
        wild(x);
        x.declare(0, 53);
        Check.read(x, 9, 8, 0, 1, 8, 0, 2);
        Check.read(x, 0);
        wild(x);
        x.rule(1, 0, 0, 0);
        x.rule(0, 0, 0, 0);
        x.goal(0);
        x.tactic(3, 0);
        x.token(9);
        wild(x);
        for (int i = 0; i < 40; i++) x.rule(1, 0, 0, 0);
        for (int i = 0; i < 24; i++) x.token(17);
        for (int i = 0; i < 30; i++) x.tactic(2, 1);
        wild(x);
        check.same("all is full but for the TERMS", Check.counts(x).substring(1), " 40 29 15 24");
        check.end();
    }

    private static void wild(SequentDesk x) {
        String before = Check.counts(x);
        for (int a : WILD) {
            one(x, a);
            for (int b = 0; b < 10; b++) {
                two(x, a, b);
                two(x, b, a);
            }
            for (int b : WILD) two(x, a, b);
        }
        check.same("nothing has changed", Check.counts(x), before);
    }

    private static void one(SequentDesk x, int a) {
        check.due("token(" + a + ")", x.token(a), -1);
        check.due("goal(" + a + ")", x.goal(a), -1);
        check.due("repeat(" + a + ")", x.repeat(a), -1);
        check.due("count(" + a + ")", x.count(a), -1);
        for (int kind = 0; kind < 9; kind++) {
            check.due("rule(" + kind + ", " + a + ")", x.rule(kind, a, 0, 0), -1);
            boolean looks = kind == 2 || kind == 4 || kind == 6 || kind == 8;
            if (looks) check.due("tactic(" + kind + ", " + a + ")", x.tactic(kind, a), -1);
        }
        for (int kind : new int[] {2, 3, 4, 6, 7, 8}) check.due("rule(" + kind + ", 0, " + a + ")", x.rule(kind, 0, a, 0), -1);
        check.due("rule(8, 0, 0, " + a + ")", x.rule(8, 0, 0, a), -1);
        check.due("symbol(0, 0, " + a + ")", x.symbol(0, 0, a), -1);
        check.due("symbol(0, " + a + ", 0)", x.symbol(0, a, 0), -1);
    }

    private static void two(SequentDesk x, int a, int b) {
        check.due("function(" + a + ", " + b + ")", x.function(a, b), -1);
        check.due("declare(" + a + ", " + b + ")", x.declare(a, b), -1);
        check.due("term(" + a + ", " + b + ")", x.term(a, b), -1);
        check.due("theorem(" + a + ", " + b + ")", x.theorem(a, b), -1);
        check.due("hypothesis(" + a + ", " + b + ")", x.hypothesis(a, b), -1);
        check.due("open(" + a + ", " + b + ")", x.open(a, b), -1);
        if (a < 0 || a > 8) check.due("tactic(" + a + ", " + b + ")", x.tactic(a, b), -1);
        if (a < 0 || a > 8) check.due("rule(" + a + ", " + b + ")", x.rule(a, b, b, b), -1);
    }
}
