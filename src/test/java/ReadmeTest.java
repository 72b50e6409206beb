import java.io.IOException;
import java.lang.reflect.Method;
import java.lang.reflect.Modifier;
import java.net.URL;
import java.net.URLClassLoader;
import java.nio.file.Files;
import java.nio.file.Path;
import java.util.regex.Matcher;
import java.util.regex.Pattern;
import javax.tools.ToolProvider;

/** README.md: its lines of Java answer what stands behind them, and it names every call. */
public final class ReadmeTest {
    private static final Checks CHECKS = new Checks();

    private static final Pattern BLOCK = Pattern.compile("```java\n(.*?)```", Pattern.DOTALL);
    private static final Pattern ANSWER = Pattern.compile("int (\\w+) = .*; +// (-?\\d+)\\b.*");
    private static final Pattern REFUSAL = Pattern.compile("(engraver\\..*;) +// throws (\\w+)\\b.*");

    private ReadmeTest() {
    }

    public static void main(String[] args) throws IOException, ReflectiveOperationException {
        String readme = Files.readString(Path.of(System.getProperty("readme", "README.md")));
        calls(readme);
        Matcher blocks = BLOCK.matcher(readme);
        StringBuilder body = new StringBuilder();
        while (blocks.find()) {
            body.append(blocks.group(1));
        }
        CHECKS.yes("there are lines of Java", body.length() > 0);
        run(program(body.toString()));
        CHECKS.end();
    }

    private static void calls(String readme) {
        for (Method m : BandEngraver.class.getDeclaredMethods()) {
            if (Modifier.isPublic(m.getModifiers())) {
                CHECKS.yes(m.getName() + " is named", readme.contains("`" + m.getName() + "`"));
            }
        }
    }

    /** The lines as a program that looks at each answer. */
    private static String program(String lines) {
        StringBuilder source = new StringBuilder("public final class ReadmeLines {\n"
                + "public static void run(ReadmeTest.Witness w) {\n");
        for (String line : lines.split("\n")) {
            Matcher answer = ANSWER.matcher(line);
            Matcher refusal = REFUSAL.matcher(line);
            if (answer.matches()) {
                source.append(line).append("\nw.due(\"").append(answer.group(1)).append("\", ")
                        .append(answer.group(2)).append(", ").append(answer.group(1)).append(");\n");
            } else if (refusal.matches()) {
                source.append("try { ").append(refusal.group(1)).append(" w.answered(\"")
                        .append(refusal.group(1)).append("\"); } catch (").append(refusal.group(2))
                        .append(" e) { w.threw(e, ").append(refusal.group(2)).append(".class); }\n");
            } else {
                CHECKS.yes("no answer stands behind it unseen: " + line, !line.contains("//"));
                source.append(line).append('\n');
            }
        }
        return source.append("}\n}\n").toString();
    }

    private static void run(String program) throws IOException, ReflectiveOperationException {
        Path work = Files.createTempDirectory("readme");
        Path file = work.resolve("ReadmeLines.java");
        Path made = work.resolve("ReadmeLines.class");
        try {
            Files.writeString(file, program);
            int failed = ToolProvider.getSystemJavaCompiler().run(null, null, null,
                    "-cp", System.getProperty("java.class.path"), "-d", work.toString(), file.toString());
            CHECKS.same("the lines compile", "0", Integer.toString(failed));
            if (failed == 0) {
                start(work);
            }
        } finally {
            Files.deleteIfExists(made);
            Files.deleteIfExists(file);
            Files.deleteIfExists(work);
        }
    }

    private static void start(Path work) throws IOException, ReflectiveOperationException {
        URL[] places = {work.toUri().toURL()};
        try (URLClassLoader loader = new URLClassLoader(places, ReadmeTest.class.getClassLoader())) {
            loader.loadClass("ReadmeLines").getMethod("run", Witness.class).invoke(null, new Witness());
        }
    }

    /** To this the lines tell what they were answered. */
    public static final class Witness {
        public void due(String name, long want, long got) {
            CHECKS.same("README: " + name, Long.toString(want), Long.toString(got));
        }

        public void answered(String call) {
            CHECKS.yes("README: " + call + " throws", false);
        }

        public void threw(RuntimeException thrown, Class<?> want) {
            CHECKS.same("README: what is thrown", want.getSimpleName(), thrown.getClass().getSimpleName());
        }
    }
}
