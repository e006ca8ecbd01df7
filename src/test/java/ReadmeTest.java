import java.io.IOException;
import java.lang.reflect.Method;
import java.lang.reflect.Modifier;
import java.net.URL;
import java.net.URLClassLoader;
import java.nio.file.Files;
import java.nio.file.Path;
import java.util.ArrayList;
import java.util.HashSet;
import java.util.List;
import java.util.Set;
import java.util.function.BiConsumer;
import java.util.regex.Matcher;
import java.util.regex.Pattern;
import java.util.stream.Stream;
import javax.tools.JavaCompiler;
import javax.tools.ToolProvider;

/**
 * The calls that README.md shows answer as it says. Its runs are made into a program, so that what is
 * tested is the very text that a reader copies.
 */
public final class ReadmeTest {
    private static final Check CHECK = new Check();
    private static final Path README = Path.of("README.md");

    /** A call, perhaps with a variable for its answer, and behind // the answer and, after a colon, why. */
    private static final Pattern CALL = Pattern.compile(
            "\\s*(?:(int|boolean) (\\w+) = )?((yard|table)\\.(\\w+)\\(.*\\));\\s*// ([\\w -]+)(?:: .*)?");
    private static final Pattern ANY_CALL = Pattern.compile(".*\\b(yard|table)\\.\\w+\\(.*");

    /** What README.md says of the calls, the number of each being what the program made of it tells. */
    private static final List<String> CALLS = new ArrayList<>();
    private static final List<String> ANSWERS = new ArrayList<>();
    private static final Set<String> NAMES = new HashSet<>();

    public static void main(String[] args) throws Exception {
        List<String> lines = Files.readAllLines(README);
        run(program(lines));
        showsTheWholeFace();
        namesEachTest(String.join("\n", lines));
        CHECK.is("README.md's .ci/run can be run", Files.isExecutable(Path.of(".ci/run")), true);
        CHECK.end();
    }

    private static String program(List<String> lines) {
        StringBuilder body = new StringBuilder();
        boolean inside = false;
        for (String line : lines) {
            if (line.startsWith("```")) {
                inside = line.equals("```java");
            } else if (inside) {
                body.append(statement(line)).append('\n');
            }
        }
        CHECK.is("README.md shows a run", CALLS.isEmpty(), false);
        return "public final class ReadmeRun {\n"
                + "public static void run(java.util.function.BiConsumer<Integer, Object> told) {\n"
                + body + "}\n}\n";
    }

    private static String statement(String line) {
        Matcher call = CALL.matcher(line);
        if (!call.matches()) {
            if (ANY_CALL.matcher(line).matches()) {
                CHECK.tell("README.md shows a call without its answer: " + line);
            }
            return line;
        }
        int number = CALLS.size();
        CALLS.add(call.group(3));
        ANSWERS.add(call.group(6).strip());
        NAMES.add(call.group(5));
        if (call.group(2) != null) {
            return line + "\ntold.accept(" + number + ", " + call.group(2) + ");";
        }
        return "try { told.accept(" + number + ", " + call.group(3) + "); }"
                + " catch (RuntimeException e) {"
                + " told.accept(" + number + ", \"throws \" + e.getClass().getSimpleName()); }";
    }

    private static void run(String program) throws Exception {
        Path out = Files.createTempDirectory("readme");
        try {
            Path source = Files.writeString(out.resolve("ReadmeRun.java"), program);
            if (compiles(source, out)) {
                runCompiled(out);
            } else {
                CHECK.tell("the runs of README.md do not compile");
            }
        } finally {
            remove(out);
        }
    }

    private static boolean compiles(Path source, Path out) {
        JavaCompiler compiler = ToolProvider.getSystemJavaCompiler();
        return compiler != null && compiler.run(null, null, null, "--release", "17", "-d", out.toString(),
                "-cp", System.getProperty("java.class.path"), source.toString()) == 0;
    }

    private static void runCompiled(Path out) throws Exception {
        Set<Integer> told = new HashSet<>();
        BiConsumer<Integer, Object> compare = (number, answer) -> {
            told.add(number);
            CHECK.is("README.md: " + CALLS.get(number), String.valueOf(answer), ANSWERS.get(number));
        };
        try (URLClassLoader loader = new URLClassLoader(new URL[] {out.toUri().toURL()})) {
            loader.loadClass("ReadmeRun").getMethod("run", BiConsumer.class).invoke(null, compare);
        }
        CHECK.is("calls of README.md that were made", told.size(), CALLS.size());
    }

    private static void remove(Path directory) throws IOException {
        try (Stream<Path> files = Files.list(directory)) {
            for (Path file : files.toList()) {
                Files.delete(file);
            }
        }
        Files.delete(directory);
    }

    private static void showsTheWholeFace() {
        for (Method method : DangerTables.class.getDeclaredMethods()) {
            if (Modifier.isPublic(method.getModifiers()) && !NAMES.contains(method.getName())) {
                CHECK.tell("README.md does not show " + method.getName());
            }
        }
    }

    private static void namesEachTest(String readme) throws IOException {
        try (Stream<Path> files = Files.list(Path.of("src/test/java"))) {
            for (Path file : files.toList()) {
                String name = file.getFileName().toString().replace(".java", "");
                if (!Pattern.compile("\\b" + name + "\\b").matcher(readme).find()) {
                    CHECK.tell("README.md does not name " + name);
                }
            }
        }
    }
}
