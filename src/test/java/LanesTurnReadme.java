import java.io.File;
import java.io.IOException;
import java.lang.reflect.Method;
import java.lang.reflect.Modifier;
import java.nio.file.Files;
import java.nio.file.Path;
import java.util.Set;
import java.util.TreeSet;
import java.util.regex.Matcher;
import java.util.regex.Pattern;
import javax.tools.JavaCompiler;
import javax.tools.ToolProvider;

/**
 * What README.md says is so: its pieces of Java are compiled and run as one run, each answer held against the number behind
 * its //, and the calls, the tests and the files that it names are those that there are.
 */
public final class LanesTurnReadme extends Calls {
    private static final Pattern PIECE = Pattern.compile("(?s)```(java|sh)\n(.*?)```");
    private static final Pattern ANSWER = Pattern.compile("(.*);\\s+// (-?\\d+)(:.*)?");
    private static final String EXAMPLE = "ReadmeExample";

    private static String page;

    private static void must(String what, boolean is) {
        due(what, is ? 1 : 0, 1);
    }

    // ---- the pieces of Java

    private static String quoted(String line) {
        return '"' + line.replace("\\", "\\\\").replace("\"", "\\\"") + '"';
    }

    /** A piece with a static method stands beside main, every other one in it. */
    private static String example() {
        StringBuilder beside = new StringBuilder();
        StringBuilder inside = new StringBuilder();
        Matcher piece = PIECE.matcher(page);
        while (piece.find()) {
            if (piece.group(1).equals("java") && piece.group(2).startsWith("static ")) {
                beside.append(piece.group(2));
            } else if (piece.group(1).equals("java")) {
                inside.append(answered(piece.group(2)));
            }
        }
        return "public final class " + EXAMPLE + " extends Calls {\n" + beside + "public static void run() {\n" + inside + "}\n}\n";
    }

    private static String answered(String piece) {
        StringBuilder out = new StringBuilder();
        for (String line : piece.split("\n")) {
            Matcher m = ANSWER.matcher(line);
            boolean is = m.matches();
            must("an answer stands behind: " + line, is || line.startsWith("LanesTurn x = new "));
            out.append(is ? "due(" + quoted(m.group(1)) + ", " + m.group(1) + ", " + m.group(2) + "L);" : line).append('\n');
        }
        return out.toString();
    }

    /** It is laid beside this test's own classes, so that it is found as they are. */
    private static void run() throws Exception {
        says("README.md: each number behind // is what the call answers");
        Path folder = Path.of(LanesTurnReadme.class.getProtectionDomain().getCodeSource().getLocation().toURI());
        Path file = folder.resolve(EXAMPLE + ".java");
        Files.writeString(file, example());
        JavaCompiler compiler = ToolProvider.getSystemJavaCompiler();
        String path = System.getProperty("java.class.path");
        int refused = compiler.run(null, null, null, "-nowarn", "-cp", path, "-d", folder.toString(), file.toString());
        due("the pieces compile", refused, 0);
        if (refused == 0) {
            Class.forName(EXAMPLE).getMethod("run").invoke(null);
        }
    }

    // ---- what it names

    private static void constants() {
        says("README.md: what can't be met");
        must("NONE", page.contains("| " + LanesTurn.NONE + " `NONE` |"));
        must("BAD", page.contains("| " + LanesTurn.BAD + " `BAD` |"));
        must("STATE", page.contains("| " + LanesTurn.STATE + " `STATE` |"));
        must("FULL", page.contains("| " + LanesTurn.FULL + " `FULL` |"));
    }

    private static void calls() {
        says("README.md: the calls");
        Set<String> named = new TreeSet<>();
        Matcher m = Pattern.compile("`(\\w+)\\(([^)]*)\\)`").matcher(page.substring(page.indexOf("### The calls")));
        while (m.find()) {
            named.add(m.group(1) + " of " + (m.group(2).isEmpty() ? 0 : m.group(2).split(", ").length));
        }
        Set<String> there = new TreeSet<>();
        for (Method call : LanesTurn.class.getDeclaredMethods()) {
            if (Modifier.isPublic(call.getModifiers())) {
                there.add(call.getName() + " of " + call.getParameterCount());
            }
        }
        must(named + " are the face " + there, named.equals(there));
    }

    private static void tests() {
        says("README.md: the tests");
        Set<String> named = new TreeSet<>();
        Matcher m = Pattern.compile("`(LanesTurn\\w+)`").matcher(page);
        while (m.find()) {
            named.add(m.group(1) + ".java");
        }
        String[] files = new File("src/test/java").list();
        Set<String> there = new TreeSet<>(Set.of(files == null ? new String[0] : files));
        must(named + " are the files " + there, named.equals(there));
    }

    private static void files() {
        says("README.md: the files");
        Matcher m = Pattern.compile("[\\w./]*/[\\w./]+").matcher(page.replace("..", "__"));
        while (m.find()) {
            String name = m.group().replace("__", "..");
            must(name, new File(name).exists());
        }
    }

    public static void main(String[] args) throws Exception {
        page = Files.readString(Path.of("README.md"));
        run();
        constants();
        calls();
        tests();
        files();
        end();
    }
}
