/**
 * Every call with numbers far out of range, in many states: each is refused, and none changes how many there are of
 * anything. Behind the 512th call of an object all answers are free, but still no call may throw or fail to end.
 */
public final class WildTest {
    private static final int[] WILD = {Integer.MIN_VALUE, Integer.MIN_VALUE + 1, -100, -2, -1, 64, 65, 100, 1 << 25,
        1 << 26, 1 << 30, Integer.MAX_VALUE - 1, Integer.MAX_VALUE};
    private static final Check check = new Check();
    private static Edges.Run run;
    private static Desk x;
    private static String before;

    public static void main(String[] args) {
        Edges.Run terms = y -> {
            y.declare(0, 53);
            Check.read(y, 9, 8, 0, 1, 8, 0, 2);
            Check.read(y, 0);
        };
        Edges.Run some = Edges.after(terms, y -> {
            y.rule(1, 0, 0, 0);
            y.rule(0, 0, 0, 0);
            y.goal(0);
            y.tactic(3, 0);
            y.token(9);
        });
        Edges.Run full = Edges.after(some, y -> {
            for (int i = 0; i < 40; i++) y.rule(1, 0, 0, 0);
            for (int i = 0; i < 24; i++) y.token(17);
            for (int i = 0; i < 30; i++) y.tactic(2, 1);
        });
        for (Edges.Run one : new Edges.Run[] {y -> { }, terms, some, full}) wild(one);
        check.same("all is full but for the TERMS", before.substring(1), " 40 29 15 24");
        beyond();
        check.end();
    }

    /** The next call goes to a desk that has some left, and to one with the same run behind it if there is none. */
    private static Desk desk() {
        if (x == null || x.left() <= 5) renew();
        return x;
    }

    private static void renew() {
        if (x != null) check.same("nothing has changed", Check.counts(x), before);
        x = new Desk();
        run.on(x);
        before = Check.counts(x);
    }

    private static void wild(Edges.Run one) {
        run = one;
        x = null;
        for (int a : WILD) {
            one(a);
            for (int b = 0; b < 10; b++) {
                two(a, b);
                two(b, a);
            }
            for (int b : WILD) two(a, b);
        }
        renew();
    }

    private static void one(int a) {
        check.due("token(" + a + ")", desk().token(a), -1);
        check.due("goal(" + a + ")", desk().goal(a), -1);
        check.due("repeat(" + a + ")", desk().repeat(a), -1);
        check.due("count(" + a + ")", desk().count(a), -1);
        for (int kind = 0; kind < 9; kind++) {
            check.due("rule(" + kind + ", " + a + ")", desk().rule(kind, a, 0, 0), -1);
            boolean looks = kind == 2 || kind == 4 || kind == 6 || kind == 8;
            if (looks) check.due("tactic(" + kind + ", " + a + ")", desk().tactic(kind, a), -1);
        }
        for (int kind : new int[] {2, 3, 4, 6, 7, 8}) check.due("rule(" + kind + ", 0, " + a + ")", desk().rule(kind, 0, a, 0), -1);
        check.due("rule(8, 0, 0, " + a + ")", desk().rule(8, 0, 0, a), -1);
        check.due("symbol(0, 0, " + a + ")", desk().symbol(0, 0, a), -1);
        check.due("symbol(0, " + a + ", 0)", desk().symbol(0, a, 0), -1);
    }

    private static void two(int a, int b) {
        check.due("function(" + a + ", " + b + ")", desk().function(a, b), -1);
        check.due("declare(" + a + ", " + b + ")", desk().declare(a, b), -1);
        check.due("term(" + a + ", " + b + ")", desk().term(a, b), -1);
        check.due("theorem(" + a + ", " + b + ")", desk().theorem(a, b), -1);
        check.due("hypothesis(" + a + ", " + b + ")", desk().hypothesis(a, b), -1);
        check.due("open(" + a + ", " + b + ")", desk().open(a, b), -1);
        if (a < 0 || a > 8) check.due("tactic(" + a + ", " + b + ")", desk().tactic(a, b), -1);
        if (a < 0 || a > 8) check.due("rule(" + a + ", " + b + ")", desk().rule(a, b, b, b), -1);
    }

    /** Many calls on one object, with small numbers and wild ones; the answers are not looked at. */
    private static void beyond() {
        for (int round = 0; round < 20; round++) {
            SequentDesk y = new SequentDesk();
            long seed = round;
            for (int i = 0; i < 20000; i++) {
                int[] n = new int[4];
                for (int k = 0; k < 4; k++) {
                    seed = seed * 6364136223846793005L + 1442695040888963407L;
                    int pick = (int) (seed >>> 33);
                    n[k] = pick % 50 == 0 ? WILD[pick / 50 % WILD.length] : pick / 50 % (k == 0 ? 18 : 12);
                }
                any(y, i, n);
            }
            check.isTrue("20000 calls have ended", true);
        }
    }

    private static void any(SequentDesk y, int i, int[] n) {
        switch (Math.floorMod(n[0] + i, 24)) {
            case 0 -> y.function(n[1], n[2]);
            case 1 -> y.declare(n[1], n[2]);
            case 2 -> y.clear();
            case 3, 4, 5 -> y.read();
            case 6 -> y.term(n[1], n[2]);
            case 7 -> y.symbol(n[1], n[2], n[3]);
            case 8, 9 -> y.rule(n[0], n[1], n[2], n[3]);
            case 10 -> y.theorem(n[1], n[2]);
            case 11 -> y.hypothesis(n[1], n[2]);
            case 12 -> y.goal(n[1]);
            case 13, 14 -> y.tactic(n[0], n[1]);
            case 15 -> y.undo();
            case 16 -> y.repeat(n[1]);
            case 17 -> y.open(n[1], n[2]);
            case 18 -> y.close();
            case 19 -> y.count(n[1]);
            default -> y.token(n[0]);
        }
    }
}
