import com.sun.management.ThreadMXBean;
import java.io.IOException;
import java.lang.management.ManagementFactory;
import java.lang.reflect.Constructor;
import java.lang.reflect.Field;
import java.lang.reflect.Method;
import java.lang.reflect.Modifier;
import java.nio.file.Files;
import java.nio.file.Path;
import java.util.Arrays;
import java.util.HashSet;
import java.util.Set;
import java.util.TreeSet;
import java.util.regex.Matcher;
import java.util.regex.Pattern;

/** The public face, and those rules of LANGUAGE.md that a program can look after. */
public final class FaceTest {
    private static final Checks CHECKS = new Checks();

    private static final String[] FACE = {
        "int append(int)", "int clearText()", "int errorPosition()", "int load()", "int about(int)",
        "int cellOf(int,int,int)", "int thresholdAt(int)", "int island(int,int)", "int border(int,int)",
        "int outline(int,int)", "int outlineWay(int,int)", "int band(int,int)", "int ink()",
        "int plate(int,int)", "int cell(int,int,int)", "int box(int,int,int,int,int)",
        "int threshold(int,boolean)", "int share(int)", "int least(int)", "int hatch(int,int)",
        "int line(int)", "int blur()", "int invert()", "int spread(int)", "int noise(long,int)",
        "int undo()", "int ifLeast(int,int)", "int leastFor(int)", "int bestMove(int)",
        "int ifCell(int,int,int,int)", "int runScript(int,long)", "int simulate(long,int)",
        "int save(int)", "int restore(int)"};

    public static void main(String[] args) throws IOException {
        face();
        Path document = Path.of(System.getProperty("document", "../shared/DOC.md"));
        if (Files.isReadable(document)) {
            declared(Files.readString(document));
        }
        names();
        sizes();
        if (args.length > 0) {
            source(Files.readString(Path.of(args[0])));
        }
        room();
        CHECKS.end();
    }

    private static String told(Method m) {
        StringBuilder s = new StringBuilder(m.getReturnType() + " " + m.getName() + "(");
        for (Class<?> c : m.getParameterTypes()) {
            s.append(s.charAt(s.length() - 1) == '(' ? "" : ",").append(c);
        }
        return s.append(")").toString();
    }

    private static void face() {
        Class<?> c = BandEngraver.class;
        CHECKS.same("the class", "public final", Modifier.toString(c.getModifiers()));
        Set<String> found = new TreeSet<>();
        for (Method m : c.getDeclaredMethods()) {
            if (!Modifier.isPrivate(m.getModifiers())) {
                found.add(Modifier.toString(m.getModifiers()) + " " + told(m));
            }
        }
        Set<String> due = new TreeSet<>();
        for (String m : FACE) {
            due.add("public " + m);
        }
        CHECKS.same("the methods", due.toString(), found.toString());
        Set<String> fields = new TreeSet<>();
        for (Field f : c.getDeclaredFields()) {
            if (!Modifier.isPrivate(f.getModifiers())) {
                fields.add(f.toString());
            }
            if (Modifier.isStatic(f.getModifiers())) {
                CHECKS.same("static " + f.getName() + " is final", "true",
                        Boolean.toString(Modifier.isFinal(f.getModifiers())));
            }
        }
        CHECKS.same("the constants", "[public static final int BandEngraver.NONE]", fields.toString());
        for (Constructor<?> k : c.getDeclaredConstructors()) {
            CHECKS.same("the constructor", "public BandEngraver()", k.toString());
        }
        CHECKS.same("what it extends", "class java.lang.Object", c.getSuperclass().toString());
        CHECKS.same("what it implements", "[]", Arrays.toString(c.getInterfaces()));
    }

    /** Each method is declared as the document's face declares it, with the same exceptions. */
    private static void declared(String document) {
        Set<String> due = new TreeSet<>();
        Matcher line = Pattern.compile("\n    public int (\\w+)\\((.*)\\)(.*);").matcher(document);
        while (line.find()) {
            due.add("int " + line.group(1) + "(" + line.group(2).replaceAll(" \\w+(,|$) ?", "$1") + ")"
                    + line.group(3));
        }
        Set<String> found = new TreeSet<>();
        for (Method m : BandEngraver.class.getDeclaredMethods()) {
            if (Modifier.isPublic(m.getModifiers())) {
                StringBuilder s = new StringBuilder(told(m));
                for (Class<?> thrown : m.getExceptionTypes()) {
                    s.append(s.charAt(s.length() - 1) == ')' ? " throws " : ", ").append(thrown.getSimpleName());
                }
                found.add(s.toString());
            }
        }
        CHECKS.same("the declared methods", due.toString(), found.toString());
    }

    private static void names() {
        Set<String> taken = new HashSet<>();
        for (Method m : BandEngraver.class.getDeclaredMethods()) {
            if (Modifier.isPublic(m.getModifiers())) {
                taken.add(m.getName());
            } else {
                CHECKS.same(m.getName() + " has a name of its own", "false",
                        Boolean.toString(taken.contains(m.getName())));
            }
        }
        for (Class<?> inside : BandEngraver.class.getDeclaredClasses()) {
            CHECKS.same(inside + " is static and private", "private static final",
                    Modifier.toString(inside.getModifiers()));
            for (Method m : inside.getDeclaredMethods()) {
                CHECKS.same(m.getName() + " has a name of its own", "false",
                        Boolean.toString(Arrays.stream(FACE).anyMatch(
                        f -> f.startsWith("int " + m.getName() + "("))));
            }
        }
    }

    private static void sizes() {
        Class<?>[] inside = BandEngraver.class.getDeclaredClasses();
        CHECKS.same("at most twelve classes", "true", Boolean.toString(inside.length < 12));
        Set<Class<?>> all = new HashSet<>(Arrays.asList(inside));
        all.add(BandEngraver.class);
        for (Class<?> c : all) {
            long fields = Arrays.stream(c.getDeclaredFields())
                    .filter(f -> !Modifier.isStatic(f.getModifiers())).count();
            CHECKS.same(c + " has at most twenty fields", "true", Boolean.toString(fields <= 20));
            for (Method m : c.getDeclaredMethods()) {
                CHECKS.same(m + " takes at most seven", "true",
                        Boolean.toString(m.getParameterCount() <= 7));
            }
        }
    }

    private static void none(String source, String pattern) {
        Matcher m = Pattern.compile(pattern).matcher(source);
        CHECKS.same("the source has " + pattern, "", m.find() ? m.group() : "");
    }

    private static void source(String file) {
        String source = file.replaceAll("(?s)/\\*.*?\\*/", "").replaceAll("//[^\n]*", "");
        CHECKS.same("what is imported", "import java.util.Arrays;", source.trim().split("\n")[0]);
        none(source.trim().substring(10), "\\b(import|package)\\b");
        none(source, "\\b(try|catch|finally|synchronized|assert|instanceof|double|float)\\b");
        none(source, "->|::|@|\\bvar\\b|\\blambda\\b");
        none(source, "\"\\s*\\+|\\+\\s*\"");
        none(source, "throw new (?!IllegalStateException|IllegalArgumentException|IndexOutOfBoundsException)");
        none(source, "throw (?!new )");
        none(source, "[^\\x00-\\x7f]");
        none(source, "\\b(System\\.(?!arraycopy)|Thread|Random|Runtime|nanoTime|Exact)");
        none(source, "while \\(true\\)|for \\(;;\\)");
        // Objects and arrays are made where fields are, and in constructors, and by no call.
        none(source, "\n {8,}+(?!private final |slots\\[slot\\] =|states\\[k\\] =)[^\n]*\\bnew (?!\\w+Exception)");
        longestMethod(source);
    }

    private static void longestMethod(String source) {
        int lines = 0;
        for (String line : source.split("\n")) {
            lines = line.matches(" {4}( {4})?\\}") ? 0 : lines + 1;
            if (line.matches(" {4}( {4})?\\S.*\\{")) {
                lines = 0;
            }
            CHECKS.same("a method's lines at " + line, "true", Boolean.toString(lines <= 60));
        }
    }

    /** Calls make no objects, so that a run of 512 calls needs no more room than its objects do. */
    private static void room() {
        ThreadMXBean bean = (ThreadMXBean) ManagementFactory.getThreadMXBean();
        BandEngraver x = new BandEngraver();
        work(x);
        long thread = Thread.currentThread().getId();
        long before = bean.getThreadAllocatedBytes(thread);
        for (int k = 0; k < 20; k++) {
            work(x);
        }
        long used = bean.getThreadAllocatedBytes(thread) - before;
        CHECKS.same("the bytes of 20 rounds of calls are few", "true", Boolean.toString(used < 20000));
        before = bean.getThreadAllocatedBytes(thread);
        for (int k = 0; k < 10; k++) {
            new BandEngraver();
        }
        used = bean.getThreadAllocatedBytes(thread) - before;
        CHECKS.same("the bytes of ten objects are few", "true", Boolean.toString(used < 600000));
    }

    private static void work(BandEngraver x) {
        x.plate(12, 12);
        x.noise(3, 50);
        x.threshold(20, true);
        x.least(3);
        x.threshold(20, false);
        x.blur();
        x.spread(20);
        x.share(3);
        x.about(8);
        x.ink();
        x.island(0, 7);
        x.outline(0, 1);
        x.bestMove(0);
        x.leastFor(3);
        x.ifCell(1, 1, 50, 2);
        x.runScript(2, 5000000060000000L);
        x.simulate(5, 60);
        x.save(0);
        x.restore(0);
        x.errorPosition();
        x.share(0);
        x.threshold(50, true);
    }
}
