/** Counts the answers that are not the ones that are due, and says so when the test ends. */
final class Check {
    private static final int MOST_SECONDS = 300;
    private int asked = 0;
    private int wrong = 0;

    /** No call may fail to end: a test that has not ended by far has failed. */
    Check() {
        Thread watch = new Thread(Check::watch);
        watch.setDaemon(true);
        watch.start();
    }

    private static void watch() {
        try {
            Thread.sleep(MOST_SECONDS * 1000L);
        } catch (InterruptedException interrupted) {
            return;
        }
        System.out.println("the test has not ended after " + MOST_SECONDS + " seconds");
        Runtime.getRuntime().halt(1);
    }

    void due(String call, long got, long want) {
        asked++;
        if (got != want) {
            wrong++;
            System.out.println(call + " answered " + got + ", due is " + want);
        }
    }

    /** For very many looks: the text of the call is made only if the answer is wrong. */
    void due(String name, long got, long want, int run, int a, int b, int c) {
        asked++;
        if (got != want) {
            wrong++;
            System.out.println("run " + run + ": " + name + " " + a + " " + b + " " + c + " answered " + got + ", due is " + want);
        }
    }

    void isTrue(String claim, boolean holds) {
        asked++;
        if (!holds) {
            wrong++;
            System.out.println("does not hold: " + claim);
        }
    }

    /** Puts tokens into an empty draft and reads it. */
    static int read(Desk x, int... tokens) {
        x.clear();
        for (int t : tokens) x.token(t);
        return x.read();
    }

    /** How many there are of each, in one text, to see that nothing has changed. */
    static String counts(Desk x) {
        return x.count(0) + " " + x.count(1) + " " + x.count(2) + " " + x.count(3) + " " + x.count(4);
    }

    void same(String what, String got, String want) {
        isTrue(what + ": " + got + " is " + want, got.equals(want));
    }

    void end() {
        System.out.println(wrong == 0 ? asked + " answers are as due" : wrong + " of " + asked + " answers are not as due");
        if (wrong != 0) System.exit(1);
    }
}
