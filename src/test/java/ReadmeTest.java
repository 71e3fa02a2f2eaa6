import java.lang.reflect.Field;
import java.lang.reflect.Method;
import java.lang.reflect.Modifier;
import java.nio.file.Files;
import java.nio.file.Path;
import java.util.List;
import java.util.regex.Matcher;
import java.util.regex.Pattern;

/** README.md shows calls with their answers: they are made here as they stand there. */
public final class ReadmeTest {
    private static final Pattern CALL = Pattern.compile("desk\\.(\\w+)\\(([-0-9, ]*)\\); +// (-?\\d+)\\b(?: \\((\\w+)\\))?.*");
    private static final Check check = new Check();
    private static Object desk = null;

    public static void main(String[] args) throws Exception {
        List<String> lines = Files.readAllLines(Path.of("README.md"));
        int calls = 0;
        boolean inside = false;
        for (String line : lines) {
            if (line.startsWith("```")) {
                inside = line.equals("```java");
            } else if (inside) {
                calls += follow(line);
            }
        }
        check.isTrue("there are calls in README.md, at most 512", calls > 0 && calls <= Desk.MOST_CALLS);
        namesAll(String.join("\n", lines));
        check.end();
    }

    /** How many calls of the desk the line makes. */
    private static int follow(String line) throws Exception {
        if (line.equals("SequentDesk desk = new SequentDesk();")) {
            desk = new SequentDesk();
            return 0;
        }
        Matcher call = CALL.matcher(line);
        check.isTrue("a call and its answer: " + line, call.matches());
        if (!call.matches()) return 0;
        int got = answer(call.group(1), call.group(2));
        check.due(line, got, Integer.parseInt(call.group(3)));
        if (got < 0) check.due(line + " by name", got, SequentDesk.class.getField(call.group(4)).getInt(null));
        return 1;
    }

    private static int answer(String name, String list) throws Exception {
        String[] texts = list.isEmpty() ? new String[0] : list.split(", ");
        Object[] arguments = new Object[texts.length];
        Class<?>[] types = new Class<?>[texts.length];
        for (int i = 0; i < texts.length; i++) {
            arguments[i] = Integer.valueOf(texts[i]);
            types[i] = int.class;
        }
        return (Integer) SequentDesk.class.getMethod(name, types).invoke(desk, arguments);
    }

    private static void namesAll(String text) throws Exception {
        for (Method m : SequentDesk.class.getDeclaredMethods()) {
            if (!Modifier.isPublic(m.getModifiers())) continue;
            check.isTrue("README.md names " + m.getName(), text.contains("| `" + m.getName() + "("));
        }
        for (Field f : SequentDesk.class.getFields()) {
            check.isTrue("README.md names " + f.getName(), text.contains("| `" + f.getName() + "` | " + f.getInt(null) + " |"));
        }
    }
}
