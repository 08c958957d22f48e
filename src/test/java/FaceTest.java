import java.lang.reflect.Field;
import java.lang.reflect.Method;
import java.lang.reflect.Modifier;
import java.nio.file.Files;
import java.nio.file.Path;
import java.util.Arrays;
import java.util.Set;
import java.util.TreeSet;
import java.util.regex.Matcher;
import java.util.regex.Pattern;

/** The document's public face, and those rules of the language that can be seen in the source. */
final class FaceTest {
    private static final String[] METHODS = {
        "feed(int)", "house()", "fault()", "told(int)", "leaf(int,int)", "waiter(int,int)", "come(int,int)",
        "rule(int,int)", "kick(int,int)", "glass(boolean)", "noise(int)", "drift(int)", "pass(int,int)",
        "leafAt(int,int)", "all(int)", "best(int)", "bestKick(int,int)", "change(int,int,int)", "worth(int,int)",
        "apart(int,int)", "order(int,int)", "rests(int,int)", "stack(int)", "until(int,int)",
        "unheard(int,int,int)", "learns(int,int)", "write(int,int)", "tear()", "judge()", "seed(int)", "keep(int)",
        "goBack(int)"};
    private static final Set<String> CONSTANTS = new TreeSet<>(Arrays.asList("NONE", "UNKNOWN", "OUTSIDE", "NOT", "FULL"));
    private static final String FORBIDDEN =
        "\\b(throw|throws|try|catch|synchronized|assert|Exception|Random|currentTimeMillis|nanoTime|Thread|package"
        + "|hashCode|toString|MAX_VALUE|MIN_VALUE|\\w*Exact)\\b|->|::";

    public static void main(String[] args) throws Exception {
        Checks checks = new Checks();
        methods(checks);
        fields(checks);
        source(checks);
        checks.end();
    }

    private static void methods(Checks checks) {
        Set<String> open = new TreeSet<>();
        Set<String> names = new TreeSet<>();
        for (Method m : SwingLeaves.class.getDeclaredMethods()) {
            String types = Arrays.toString(m.getParameterTypes()).replaceAll("[\\[\\] ]", "");
            if (Modifier.isPublic(m.getModifiers())) {
                open.add(m.getName() + "(" + types + ")");
                names.add(m.getName());
                checks.due(m.getName() + " answers an int", 1, m.getReturnType() == int.class ? 1 : 0);
            } else {
                checks.due(m.getName() + " is private", 1, Modifier.isPrivate(m.getModifiers()) ? 1 : 0);
            }
        }
        checks.due("the methods " + open, 1, open.equals(new TreeSet<>(Arrays.asList(METHODS))) ? 1 : 0);
        for (Class<?> inside : SwingLeaves.class.getDeclaredClasses()) {
            checks.due(inside + " is static", 1, Modifier.isStatic(inside.getModifiers()) ? 1 : 0);
            for (Method m : inside.getDeclaredMethods()) {
                checks.due(m + " has a name of its own", 0, names.contains(m.getName()) ? 1 : 0);
                checks.due(m + " has few parameters", 1, m.getParameterCount() <= 7 ? 1 : 0);
            }
        }
        checks.due("constructors", 1, SwingLeaves.class.getConstructors().length);
        checks.due("final", 1, Modifier.isFinal(SwingLeaves.class.getModifiers()) ? 1 : 0);
    }

    private static void fields(Checks checks) {
        Set<String> open = new TreeSet<>();
        for (Field f : SwingLeaves.class.getDeclaredFields()) {
            if (Modifier.isPublic(f.getModifiers())) {
                open.add(f.getName());
            } else {
                checks.due(f.getName() + " is private", 1, Modifier.isPrivate(f.getModifiers()) ? 1 : 0);
            }
        }
        checks.due("the constants " + open, 1, open.equals(CONSTANTS) ? 1 : 0);
        checks.due("NONE", -1, SwingLeaves.NONE);
        checks.due("UNKNOWN", -1000000001, SwingLeaves.UNKNOWN);
        checks.due("OUTSIDE", -1000000002, SwingLeaves.OUTSIDE);
        checks.due("NOT", -1000000003, SwingLeaves.NOT);
        checks.due("FULL", -1000000004, SwingLeaves.FULL);
    }

    private static void source(Checks checks) throws Exception {
        String text = Files.readString(Path.of("src/main/java/SwingLeaves.java"));
        String code = text.replaceAll("(?s)/\\*.*?\\*/", "").replaceAll("//[^\n]*", "");
        Matcher m = Pattern.compile(FORBIDDEN).matcher(code);
        int met = 0;
        while (m.find()) {
            met++;
            System.out.println("forbidden in the source: " + m.group());
        }
        checks.due("forbidden words", 0, met);
    }
}
