import java.io.IOException;
import java.lang.management.ManagementFactory;
import java.lang.reflect.Constructor;
import java.lang.reflect.Field;
import java.lang.reflect.Method;
import java.lang.reflect.Modifier;
import java.nio.file.Files;
import java.nio.file.Path;
import java.util.Arrays;
import java.util.HashSet;
import java.util.List;
import java.util.Set;
import java.util.TreeSet;
import java.util.regex.Matcher;
import java.util.regex.Pattern;

/** The face, the rules of ../shared/LANGUAGE.md that a look at the file can show, and the room that the calls take. */
public final class LanesTurnLanguage {
    private static final String SOURCE = "src/main/java/LanesTurn.java";
    private static final String[] FACE = {
        "int lane(int,int,int)", "int set(int,int,int)", "int come(int,int)", "int stop(int,int,int)",
        "int told(int,int,int)", "int feed(int,long)", "int text()", "int force(int)", "long waited(int,int)",
        "int day(int,int,int)", "long best(int,int)", "long two(int,int)", "int enough(int,int)", "long worth(int,int)",
        "int judge(int)", "int image()", "int back()", "int count(int)", "int sheet(int,int,int)", "int cell(int,int,int)",
        "int copy(int,int,int,int,int)", "int lanes(int,int,int,int)", "int taken(int,int)"};
    private static final String[] BANNED = {
        "throw", "try", "catch", "synchronized", "assert", "Object", "equals", "hashCode", "toString", "System.out",
        "Random", "nanoTime", "currentTimeMillis", "Thread", "->", "::", "@Override", "Exact", "yield", "var"};
    private static final int LONGEST_METHOD = 60, MOST_PARAMETERS = 7, MOST_CLASSES = 12, MOST_FIELDS = 20;

    private static int wrong = 0;

    private static void must(boolean is, String what) {
        if (!is) {
            wrong++;
            System.out.println("not so: " + what);
        }
    }

    private static String told(Method m) {
        StringBuilder b = new StringBuilder(m.getReturnType().getSimpleName() + " " + m.getName() + "(");
        for (int i = 0; i < m.getParameterCount(); i++) {
            b.append(i > 0 ? "," : "").append(m.getParameterTypes()[i].getSimpleName());
        }
        return b.append(")").toString();
    }

    private static void face() {
        Class<?> c = LanesTurn.class;
        must(c.getModifiers() == (Modifier.PUBLIC | Modifier.FINAL), "the class is public and final");
        Set<String> got = new TreeSet<>();
        Set<String> open = new HashSet<>();
        for (Method m : c.getDeclaredMethods()) {
            if (!Modifier.isPrivate(m.getModifiers())) {
                got.add(told(m));
                open.add(m.getName());
                must(m.getModifiers() == Modifier.PUBLIC, "plainly public: " + m);
            }
        }
        must(got.equals(new TreeSet<>(Arrays.asList(FACE))), "the face: " + got);
        Constructor<?>[] made = c.getDeclaredConstructors();
        must(made.length == 1 && made[0].getModifiers() == Modifier.PUBLIC && made[0].getParameterCount() == 0, "one constructor");
        for (Field f : c.getDeclaredFields()) {
            boolean named = List.of("NONE", "BAD", "STATE", "FULL", "NO").contains(f.getName());
            int want = named ? Modifier.PUBLIC | Modifier.STATIC | Modifier.FINAL : Modifier.PRIVATE;
            must((f.getModifiers() & want) == want && (named || !Modifier.isPublic(f.getModifiers())), "field " + f);
        }
        inside(c, open);
    }

    private static void inside(Class<?> c, Set<String> open) {
        must(c.getDeclaredClasses().length < MOST_CLASSES, "so many classes");
        for (Method m : c.getDeclaredMethods()) {
            must(!Modifier.isPrivate(m.getModifiers()) || !open.contains(m.getName()), "a private method with a public name: " + m);
        }
        for (Class<?> d : c.getDeclaredClasses()) {
            must(Modifier.isPrivate(d.getModifiers()) && Modifier.isStatic(d.getModifiers()), "private and static: " + d);
            for (Method m : d.getDeclaredMethods()) {
                must(!open.contains(m.getName()), "a method inside with a public name: " + m);
            }
        }
        for (Class<?> d : c.getNestMembers()) {
            long fields = Arrays.stream(d.getDeclaredFields()).filter(f -> !Modifier.isStatic(f.getModifiers())).count();
            must(fields <= MOST_FIELDS, "so many fields: " + d);
            for (Method m : d.getDeclaredMethods()) {
                must(m.getParameterCount() <= MOST_PARAMETERS, "so many parameters: " + m);
            }
            for (Field f : d.getDeclaredFields()) {
                must(!Modifier.isStatic(f.getModifiers()) || Modifier.isFinal(f.getModifiers()), "static, not final: " + f);
            }
        }
    }

    private static void words() throws IOException {
        String source = Files.readString(Path.of(SOURCE));
        must(source.chars().allMatch(c -> c == '\n' || c >= 32 && c < 127), "plain signs alone");
        String code = source.replaceAll("(?s)/\\*.*?\\*/", "").replaceAll("//.*", "").replaceAll("\"[^\"\n]*\"", "\"\"");
        for (String word : BANNED) {
            String edge = Character.isLetter(word.charAt(0)) ? "\\b" : "";
            must(!Pattern.compile(edge + Pattern.quote(word) + edge).matcher(code).find(), "no " + word);
        }
        must(!code.contains("package "), "no package");
        Matcher m = Pattern.compile("import ([^;]*);").matcher(code);
        while (m.find()) {
            must(m.group(1).equals("java.util.Arrays"), "import " + m.group(1));
        }
        lengths(code.split("\n"));
    }

    private static void lengths(String[] lines) {
        int from = 0;
        for (int i = 0; i < lines.length; i++) {
            if (lines[i].matches(" {4}( {4})?\\S.*\\) \\{")) {
                from = i;
            }
            if (lines[i].matches(" {4}( {4})?\\}")) {
                must(i - from < LONGEST_METHOD || lines[i].matches(" {4}\\}"), "a method of so many lines, ending in line " + (i + 1));
            }
        }
    }

    /** The dearest calls, till the object is used up (512 calls): they make nothing, beside LANES. */
    private static void room() {
        com.sun.management.ThreadMXBean meter = (com.sun.management.ThreadMXBean) ManagementFactory.getThreadMXBean();
        LanesTurn x = new LanesTurn();
        for (int i = 0; i < 8; i++) {
            x.lane(i % 5, 5, i % 2);
        }
        x.sheet(0, 0, 60);
        calls(x, 4);
        long before = meter.getCurrentThreadAllocatedBytes();
        calls(x, 31);
        long made = meter.getCurrentThreadAllocatedBytes() - before;
        must(made < 4096, "the calls make nothing: " + made + " bytes");
        before = meter.getCurrentThreadAllocatedBytes();
        new LanesTurn();
        made = meter.getCurrentThreadAllocatedBytes() - before;
        must(made < 40000, "an object is small: " + made + " bytes");
    }

    private static void calls(LanesTurn x, int times) {
        for (int i = 0; i < times; i++) {
            x.set(0, 10 * (i % 60) + i % 2, i % 100);
            x.waited(60, 4);
            x.best(20, 2);
            x.two(12, 3);
            x.enough(60, 0);
            x.worth(60, 1);
            x.judge(0);
            x.image();
            x.back();
            x.feed(8, 0x7475726e20313bL);
            x.text();
            x.sheet(1, i % 3, 60);
            x.copy(1, 0, 1, 5, 50);
            x.lanes(1, i % 3, 0, 8);
        }
    }

    public static void main(String[] args) throws IOException {
        face();
        words();
        room();
        System.out.println(wrong == 0 ? "the language and the room are kept" : wrong + " rules are not kept");
        if (wrong != 0) {
            System.exit(1);
        }
    }
}
