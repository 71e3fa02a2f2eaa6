import java.util.ArrayList;
import java.util.Arrays;
import java.util.List;

/**
 * Promise 6, without a thought of how TYPES are found out: for every short draft all short TYPES are tried for the
 * variables. What read gives them goes; all that goes is a case of it; where it says KIND, nothing goes; and where it says
 * BIG, nothing goes without a PART whose TYPE is too long.
 */
public final class TrialTest {
    private static final int MOST_TOKENS = 7, MOST_LAMS = 2, MOST_LEAVES = 3;
    private static final int[] ALPHABET = {0, 1, 8, 9, 10, 11};
    /** The TYPES of NAMES 0 and 1. */
    private static final String[][] NAMES = {{"00", "01"}, {"10000", "00"}, {"10101", "01"}, {"11000010000", "10000"}};
    private static final Check check = new Check();
    private static final List<String> tried = typesUpTo(MOST_LEAVES);

    private final String[] names;
    private final List<Integer> draft;
    private final int lams;
    /** The TYPES that are tried for the variables, and how far a trial has come. */
    private String[] variables;
    private int at;
    private int lam;
    private int mostDigits;

    private TrialTest(String[] names, List<Integer> draft) {
        this.names = names;
        this.draft = draft;
        lams = (int) draft.stream().filter(t -> t >= 10).count();
    }

    public static void main(String[] args) {
        for (String[] names : NAMES) allDrafts(names, new ArrayList<>(), 1);
        check.end();
    }

    private static List<String> typesUpTo(int leaves) {
        List<List<String>> byLeaves = new ArrayList<>(List.of(List.of(), List.of(Model.TRUTHS, Model.THINGS)));
        for (int n = 2; n <= leaves; n++) {
            List<String> some = new ArrayList<>();
            for (int k = 1; k < n; k++) {
                for (String from : byLeaves.get(k)) for (String to : byLeaves.get(n - k)) some.add("1" + from + to);
            }
            byLeaves.add(some);
        }
        return byLeaves.stream().flatMap(List::stream).toList();
    }

    private static void allDrafts(String[] names, List<Integer> draft, int awaited) {
        if (awaited == 0) {
            new TrialTest(names, draft).compare();
            return;
        }
        if (draft.size() + awaited > MOST_TOKENS) return;
        for (int token : ALPHABET) {
            draft.add(token);
            allDrafts(names, draft, awaited + (token < 8 ? -1 : token < 10 ? 1 : 0));
            draft.remove(draft.size() - 1);
        }
    }

    private void compare() {
        if (lams > MOST_LAMS) return;
        Desk x = new Desk();
        for (int v = 0; v < names.length; v++) x.declare(v, Model.numberOf(names[v]));
        for (int t : draft) x.token(t);
        int answer = x.read();
        String told = Arrays.toString(names) + draft + " answered " + answer;
        check.isTrue(told, answer == 0 || answer == SequentDesk.KIND || answer == SequentDesk.BIG);
        String[] found = answer == 0 ? foundBy(x) : null;
        if (found != null) check.isTrue("what was found goes: " + told, goes(found) && mostDigits <= 24);
        for (int i = 0; i < choices(1); i++) {
            for (int j = 0; j < choices(2); j++) {
                String[] other = Arrays.copyOf(new String[] {tried.get(i), tried.get(j)}, lams);
                if (!goes(other)) continue;
                boolean holds = answer == 0 ? areCases(found, other) : answer == SequentDesk.BIG && mostDigits > 24;
                check.isTrue(told + ", but what goes is " + Arrays.toString(other), holds);
            }
        }
    }

    private int choices(int lam) {
        return lams >= lam ? tried.size() : 1;
    }

    private String[] foundBy(Desk x) {
        List<String> found = new ArrayList<>();
        for (int i = 0; i < draft.size(); i++) {
            if (draft.get(i) >= 10) found.add(Model.from(Model.typeOf(x.symbol(0, i, 1))));
        }
        return found.toArray(new String[0]);
    }

    private static boolean areCases(String[] general, String[] others) {
        for (int k = 0; k < others.length; k++) if (!isCase(general[k], others[k])) return false;
        return true;
    }

    /** THINGS may stand for what was left open. */
    private static boolean isCase(String general, String other) {
        if (general.charAt(0) == '0') return general.equals(Model.THINGS) || general.equals(other);
        return other.charAt(0) == '1' && isCase(Model.from(general), Model.from(other)) && isCase(Model.to(general), Model.to(other));
    }

    private boolean goes(String[] types) {
        variables = types;
        at = 0;
        lam = 0;
        mostDigits = 0;
        return type(List.of(), List.of()) != null;
    }

    /** The TYPE of the next PART, null if it has none. */
    private String type(List<Integer> called, List<String> types) {
        String type = unmeasured(called, types);
        if (type != null) mostDigits = Math.max(mostDigits, type.length());
        return type;
    }

    private String unmeasured(List<Integer> called, List<String> types) {
        int token = draft.get(at++);
        if (token < 8) {
            int found = called.lastIndexOf(token);
            return found < 0 ? names[token] : types.get(found);
        }
        if (token >= 10) {
            String variable = variables[lam++];
            String body = type(with(called, token - 10), with(types, variable));
            return body == null ? null : "1" + variable + body;
        }
        String first = type(called, types);
        String second = first == null ? null : type(called, types);
        if (second == null) return null;
        if (token == 9) return first.equals(second) ? Model.TRUTHS : null;
        return first.charAt(0) == '1' && Model.from(first).equals(second) ? Model.to(first) : null;
    }

    private static <E> List<E> with(List<E> list, E one) {
        List<E> longer = new ArrayList<>(list);
        longer.add(one);
        return longer;
    }
}
