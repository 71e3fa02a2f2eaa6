import java.lang.reflect.Constructor;
import java.lang.reflect.Field;
import java.lang.reflect.Method;
import java.lang.reflect.Modifier;
import java.nio.file.Files;
import java.nio.file.Path;
import java.util.Set;
import java.util.TreeSet;

/** The public face, and the rules of LANGUAGE.md that can be seen from outside or from the text. */
public final class FaceTest {
    private static final String FACE = "clear/0 close/0 count/1 declare/2 function/2 goal/1 hypothesis/2 open/2 read/0 "
        + "repeat/1 rule/4 symbol/3 tactic/2 term/2 theorem/2 token/1 undo/0";
    private static final String CONSTANTS = "BIG=-5 FULL=-6 KIND=-3 LATE=-7 REFUSED=-1 SHAPE=-2 UNFIT=-4";
    private static final Check check = new Check();

    public static void main(String[] args) throws Exception {
        check.isTrue("the class is public and final",
            Modifier.isPublic(SequentDesk.class.getModifiers()) && Modifier.isFinal(SequentDesk.class.getModifiers()));
        constructors();
        methods();
        fields();
        nestedClasses();
        text();
        check.end();
    }

    private static void constructors() {
        Constructor<?>[] all = SequentDesk.class.getDeclaredConstructors();
        check.due("constructors", all.length, 1);
        check.isTrue("it is public, without parameters",
            Modifier.isPublic(all[0].getModifiers()) && all[0].getParameterCount() == 0);
    }

    private static void methods() {
        Set<String> visible = new TreeSet<>();
        Set<String> names = new TreeSet<>();
        for (Method m : SequentDesk.class.getDeclaredMethods()) {
            if (Modifier.isPrivate(m.getModifiers()) || m.isSynthetic()) continue;
            check.isTrue(m + " is public, no static one, and answers int",
                Modifier.isPublic(m.getModifiers()) && !Modifier.isStatic(m.getModifiers()) && m.getReturnType() == int.class);
            visible.add(m.getName() + "/" + m.getParameterCount());
            names.add(m.getName());
        }
        check.same("the methods", String.join(" ", visible), FACE);
        for (Class<?> c : SequentDesk.class.getDeclaredClasses()) {
            for (Method m : c.getDeclaredMethods()) noNamesake(m, names);
        }
        for (Method m : SequentDesk.class.getDeclaredMethods()) noNamesake(m, names);
    }

    private static void noNamesake(Method m, Set<String> names) {
        check.isTrue(m + " is no namesake", !Modifier.isPrivate(m.getModifiers()) || !names.contains(m.getName()));
    }

    private static void fields() throws IllegalAccessException {
        Set<String> visible = new TreeSet<>();
        for (Field f : SequentDesk.class.getDeclaredFields()) {
            check.isTrue(f + " is final", !Modifier.isStatic(f.getModifiers()) || Modifier.isFinal(f.getModifiers()));
            if (Modifier.isPrivate(f.getModifiers())) continue;
            check.isTrue(f + " is a public constant", Modifier.isPublic(f.getModifiers()) && Modifier.isStatic(f.getModifiers()));
            visible.add(f.getName() + "=" + f.getInt(null));
        }
        check.same("the constants", String.join(" ", visible), CONSTANTS);
    }

    private static void nestedClasses() {
        Class<?>[] all = SequentDesk.class.getDeclaredClasses();
        check.isTrue("at most some twelve classes", all.length + 1 <= 16);
        for (Class<?> c : all) {
            check.isTrue(c + " is static and not public",
                Modifier.isStatic(c.getModifiers()) && !Modifier.isPublic(c.getModifiers()) && !Modifier.isProtected(c.getModifiers()));
            for (Field f : c.getDeclaredFields()) {
                check.isTrue(f + " is no static state", !Modifier.isStatic(f.getModifiers()) || Modifier.isFinal(f.getModifiers()));
            }
            for (Method m : c.getDeclaredMethods()) check.isTrue(m + " has at most seven parameters", m.getParameterCount() <= 7);
        }
    }

    private static void text() throws Exception {
        String text = Files.readString(Path.of("src/main/java/SequentDesk.java"));
        String code = text.replaceAll("(?s)/\\*.*?\\*/", "").replaceAll("//[^\n]*", "");
        // What LANGUAGE.md leaves of words that are forbidden otherwise.
        String rest = code.replaceAll("import java\\.util\\.(ArrayList|List|Arrays|Iterator);", "").replace("System.arraycopy", "")
            .replaceAll("(?m)^(\\s*(case|default)[^\n]*?)->", "$1");
        for (String pattern : new String[] {"\\b(throw|throws|try|catch|synchronized|assert|package|import|hashCode)\\b", "->", "::",
            "\\b(System|Thread|Random)\\b", "\\b(Math|Integer|Long)\\.\\w+Exact\\b"}) {
            check.isTrue("no " + pattern, !java.util.regex.Pattern.compile(pattern).matcher(rest).find());
        }
        check.isTrue("characters 0 to 255 alone", text.chars().allMatch(c -> c < 256));
    }
}
