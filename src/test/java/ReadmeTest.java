import java.io.IOException;
import java.net.URL;
import java.net.URLClassLoader;
import java.nio.file.Files;
import java.nio.file.Path;
import java.util.ArrayList;
import java.util.List;
import java.util.Map;
import java.util.Set;
import java.util.TreeMap;
import java.util.TreeSet;
import java.util.regex.Matcher;
import java.util.regex.Pattern;
import javax.tools.JavaCompiler;
import javax.tools.ToolProvider;

/**
 * What README.md says of the class is so: its Java is compiled and run, its tables are held against the document's face and
 * the refusals that it names. Public, since the compiled page is loaded apart and hands its answers over.
 */
public final class ReadmeTest {
    private static final Path PAGE = Path.of("README.md");
    private static final Path SHOWN = Path.of("build/readme");
    private static final Pattern BLOCK = Pattern.compile("(?ms)^```java\n(.*?)^```$");
    /** A call and the answer that the page shows behind it, with what it says of it. */
    private static final Pattern SHOWN_CALL = Pattern.compile("(x\\.\\w+\\(.*\\));\\s*// (-?\\d+|[A-Z]+)(:.*)?");
    /** A call and what the page says that it refuses. */
    private static final Pattern ROW = Pattern.compile("(?m)^\\| `(\\w+\\([^)]*\\))` \\| [^|]* \\| ([^|]*)\\|$");
    /** What the document names behind each promise, in its order. */
    private static final String[][] PROMISED = {
        {"feed(letter)", "OUTSIDE, FULL"}, {"house()", ""}, {"fault()", ""}, {"told(what)", "OUTSIDE"},
        {"leaf(l, what)", "UNKNOWN, OUTSIDE"}, {"waiter(w, what)", "UNKNOWN, OUTSIDE"},
        {"come(w, v)", "UNKNOWN, OUTSIDE"}, {"rule(w, v)", "UNKNOWN, OUTSIDE"}, {"kick(w, v)", "UNKNOWN, OUTSIDE"},
        {"glass(clear)", ""}, {"noise(v)", "OUTSIDE"}, {"drift(n)", "OUTSIDE, NOT"},
        {"pass(w, what)", "UNKNOWN, OUTSIDE"}, {"leafAt(l, tenth)", "UNKNOWN, OUTSIDE"},
        {"all(r)", "OUTSIDE"}, {"best(w)", "UNKNOWN"}, {"bestKick(w, what)", "UNKNOWN, OUTSIDE"},
        {"change(a, b, what)", "OUTSIDE"}, {"worth(what, n)", "OUTSIDE"}, {"apart(side, g)", "OUTSIDE"},
        {"order(side, i)", "OUTSIDE"}, {"rests(a, b)", "UNKNOWN, NOT"}, {"stack(q)", "OUTSIDE"},
        {"until(q, x)", "OUTSIDE"}, {"unheard(q, r, part)", "OUTSIDE, NOT"}, {"learns(w, n)", "UNKNOWN, OUTSIDE"},
        {"write(w, kind)", "UNKNOWN, OUTSIDE, FULL"}, {"tear()", ""}, {"judge()", ""}, {"seed(v)", "OUTSIDE"},
        {"keep(i)", "UNKNOWN"}, {"goBack(i)", "UNKNOWN, NOT"}};

    private static final Checks CHECKS = new Checks();

    public static void main(String[] args) throws Exception {
        String page = Files.readString(PAGE);
        runBlocks(page);
        tables(page);
        constants(page);
        testsNamed(page);
        CHECKS.end();
    }

    /** Called by the compiled page. */
    public static void due(String call, long want, long got) {
        CHECKS.due("README: " + call, want, got);
    }

    private static void runBlocks(String page) throws Exception {
        List<String> names = new ArrayList<>();
        List<String> files = new ArrayList<>();
        Files.createDirectories(SHOWN);
        Matcher m = BLOCK.matcher(page);
        while (m.find()) {
            String name = "Shown" + names.size();
            Path file = SHOWN.resolve(name + ".java");
            Files.writeString(file, programOf(name, m.group(1)));
            names.add(name);
            files.add(file.toString());
        }
        CHECKS.due("the page shows Java", 1, names.size() >= 4 ? 1 : 0);
        CHECKS.due("the page's Java compiles", 0, compile(files));
        URL[] places = {SHOWN.toUri().toURL()};
        try (URLClassLoader loader = new URLClassLoader(places, ReadmeTest.class.getClassLoader())) {
            for (String name : names) {
                loader.loadClass(name).getMethod("show").invoke(null);
            }
        }
    }

    private static int compile(List<String> files) {
        JavaCompiler compiler = ToolProvider.getSystemJavaCompiler();
        List<String> words = new ArrayList<>(List.of("-d", SHOWN.toString(), "-cp", System.getProperty("java.class.path")));
        words.addAll(files);
        return compiler.run(null, null, null, words.toArray(new String[0]));
    }

    /** Each shown call becomes a check; a call on x that shows no answer stands in a loop that feeds. */
    private static String programOf(String name, String block) {
        StringBuilder body = new StringBuilder();
        int shown = 0;
        for (String line : block.split("\n")) {
            Matcher m = SHOWN_CALL.matcher(line.trim());
            if (m.matches()) {
                shown++;
                String want = m.group(2).matches("[A-Z]+") ? "SwingLeaves." + m.group(2) : m.group(2);
                body.append("        ReadmeTest.due(\"").append(m.group(1)).append("\", ").append(want).append(", ");
                body.append(m.group(1)).append(");\n");
            } else {
                CHECKS.due("an answer behind " + line.trim(), 1, line.startsWith("x.") ? 0 : 1);
                body.append("        ").append(line).append('\n');
            }
        }
        CHECKS.due(name + " shows answers", 1, shown > 0 ? 1 : 0);
        return "public final class " + name + " {\n    public static void show() {\n" + body + "    }\n}\n";
    }

    private static void tables(String page) {
        Map<String, String> told = new TreeMap<>();
        Matcher r = ROW.matcher(page);
        while (r.find()) {
            told.put(r.group(1), r.group(2).trim());
        }
        for (String[] each : PROMISED) {
            CHECKS.due("README: " + each[0] + " refuses " + each[1], 1, each[1].equals(told.get(each[0])) ? 1 : 0);
        }
        CHECKS.due("calls that README tells of", PROMISED.length, told.size());
    }

    private static void constants(String page) throws Exception {
        for (String name : new String[] {"UNKNOWN", "OUTSIDE", "NOT", "FULL"}) {
            int value = SwingLeaves.class.getField(name).getInt(null);
            CHECKS.due("README tells the value of " + name, 1, page.contains("| `" + name + "` | " + value + " |") ? 1 : 0);
        }
        CHECKS.due("README tells the value of NONE", 1, page.contains("`NONE` (" + SwingLeaves.NONE + ")") ? 1 : 0);
    }

    /** Every test that there is stands on the page, and every one on the page there is. */
    private static void testsNamed(String page) throws IOException {
        Set<String> there = new TreeSet<>();
        try (var files = Files.list(Path.of("src/test/java"))) {
            files.forEach(file -> there.add(file.getFileName().toString()));
        }
        Set<String> named = new TreeSet<>();
        Matcher m = Pattern.compile("\\w+\\.java").matcher(page.substring(page.indexOf("## How to run its tests")));
        while (m.find()) {
            named.add(m.group());
        }
        CHECKS.due("README names the tests " + there, 1, there.equals(named) ? 1 : 0);
    }
}
