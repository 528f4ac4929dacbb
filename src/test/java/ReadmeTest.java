import java.io.File;
import java.lang.reflect.InvocationTargetException;
import java.net.URL;
import java.net.URLClassLoader;
import java.nio.charset.StandardCharsets;
import java.nio.file.Files;
import java.nio.file.Path;
import java.util.Arrays;
import java.util.TreeSet;
import java.util.regex.Matcher;
import java.util.regex.Pattern;
import java.util.stream.Collectors;
import javax.tools.JavaCompiler;
import javax.tools.ToolProvider;

/** What README.md says: its lines of Java are compiled and run, and its table of tests is held against the tests. */
public final class ReadmeTest {
    private static final Pattern ANSWERED = Pattern.compile("(x\\..*);\\s*// (-?\\d+|true|false)\\b.*");

    private ReadmeTest() {
    }

    public static void main(String[] args) throws Exception {
        String readme = Files.readString(Path.of("README.md"), StandardCharsets.UTF_8);
        calls(readme);
        command(readme);
        table(readme);
        Due.ends("ReadmeTest");
    }

    /** Each line that tells an answer becomes a look at that answer; the other lines stay as they are. */
    private static void calls(String readme) throws Exception {
        Due.promise(0, "README.md: its calls answer as it tells");
        StringBuilder lines = new StringBuilder();
        int answers = 0;
        for (String line : readme.split("```java\n")[1].split("```")[0].split("\n")) {
            Matcher told = ANSWERED.matcher(line);
            if (told.matches()) {
                answers++;
                lines.append(look(told.group(1), told.group(2))).append('\n');
            } else {
                Due.no("a call without its answer: " + line, line.startsWith("x."));
                lines.append(line).append('\n');
            }
        }
        Due.yes("calls that tell their answer: " + answers, answers > 20);
        run("public final class ReadmeCalls {\n    public static void calls() {\n" + lines + "    }\n"
                + "    private static void same(String call, boolean got, boolean want) {\n"
                + "        same(call, got ? 1 : 0, want ? 1 : 0);\n    }\n"
                + "    private static void same(String call, long got, long want) {\n"
                + "        if (got != want) {\n            throw new IllegalStateException(call + \" answered \" + got);\n"
                + "        }\n    }\n}\n");
    }

    private static String look(String call, String answer) {
        String quoted = call.replace("\\", "\\\\").replace("\"", "\\\"");
        boolean number = answer.matches("-?\\d+");
        return "same(\"" + quoted + "\", " + call + ", " + answer + (number ? "L" : "") + ");";
    }

    private static void run(String source) throws Exception {
        Path to = Files.createTempDirectory("readme");
        try {
            Path file = Files.writeString(to.resolve("ReadmeCalls.java"), source);
            JavaCompiler compiler = ToolProvider.getSystemJavaCompiler();
            int compiled = compiler.run(null, null, null, "--release", "17", "-cp",
                    System.getProperty("java.class.path"), "-d", to.toString(), file.toString());
            Due.same("javac of its lines", compiled, 0);
            if (compiled == 0) {
                call(to);
            }
        } finally {
            for (File file : to.toFile().listFiles()) {
                Files.delete(file.toPath());
            }
            Files.delete(to);
        }
    }

    private static void call(Path where) throws Exception {
        URL[] classes = {where.toUri().toURL()};
        try (URLClassLoader loader = new URLClassLoader(classes)) {
            loader.loadClass("ReadmeCalls").getMethod("calls").invoke(null);
        } catch (InvocationTargetException e) {
            Due.yes(String.valueOf(e.getCause().getMessage()), false);
        }
    }

    private static void command(String readme) throws Exception {
        Due.promise(0, "README.md: its command runs the tests");
        String command = readme.split("```sh\n")[1].split("\n")[0];
        Due.yes(command, Files.isExecutable(Path.of(command)));
        Due.yes(command + " runs " + "each test", Files.readString(Path.of(command), StandardCharsets.UTF_8)
                .contains("for file in src/test/java/*Test.java"));
    }

    private static void table(String readme) {
        Due.promise(0, "README.md: its table of tests");
        TreeSet<String> named = new TreeSet<>();
        Matcher rows = Pattern.compile("(?m)^\\| `(\\w+)` \\|").matcher(readme);
        while (rows.find()) {
            named.add(rows.group(1));
        }
        TreeSet<String> there = Arrays.stream(new File("src/test/java").list())
                .filter(name -> name.endsWith("Test.java")).map(name -> name.replace(".java", ""))
                .collect(Collectors.toCollection(TreeSet::new));
        Due.yes("named " + named + ", there are " + there, named.equals(there));
    }
}
