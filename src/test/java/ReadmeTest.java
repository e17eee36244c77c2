import java.io.File;
import java.lang.reflect.Method;
import java.lang.reflect.Modifier;
import java.nio.file.Files;
import java.nio.file.Path;
import java.util.ArrayList;
import java.util.Arrays;
import java.util.List;
import java.util.regex.Matcher;
import java.util.regex.Pattern;
import javax.tools.ToolProvider;

/**
 * README.md is true: its examples are put into one program, which is compiled and run, and its tables name each
 * call of the face with its exceptions, and each test.
 */
public final class ReadmeTest {
    private static final String PROGRAM = "ReadmeExamples";
    private static final Pattern ANSWERED = Pattern.compile("(talk\\.\\w+\\(.*?\\));\\s*// (.+?)(: .*)?");
    private static final Pattern THROWN = Pattern.compile("throws (\\w+)");
    private static final Pattern CALL = Pattern.compile("\\| `(\\w+)\\(([^)]*)\\)` \\|.*");
    private static final Pattern EXCEPTION = Pattern.compile("`(\\w+Exception)`:");

    private ReadmeTest() {
    }

    public static void main(String[] args) throws Exception {
        List<String> lines = Files.readAllLines(Path.of("README.md"));
        examples(lines);
        calls(lines);
        tests(lines);
        Check.end("ReadmeTest");
    }

    // ---- the examples

    private static void examples(List<String> lines) throws Exception {
        StringBuilder program = new StringBuilder("final class " + PROGRAM + " {\n"
                + "    public static void main(String[] args) {\n");
        boolean isExample = false;
        int checks = 0;
        for (String line : lines) {
            if (line.startsWith("```")) {
                isExample = line.equals("```java");
            } else if (isExample) {
                program.append("        ").append(statement(line)).append('\n');
                checks += line.contains("// ") ? 1 : 0;
            }
        }
        program.append("        Check.end(\"").append(PROGRAM).append("\");\n    }\n}\n");
        Check.due("there are examples", checks > 30, true);
        Check.due("the examples answer what stands behind them", run(program.toString()), 0);
    }

    /** What answers nothing is put down as it is, all else as a check of what stands behind it. */
    private static String statement(String line) {
        Matcher answered = ANSWERED.matcher(line);
        if (!answered.matches()) {
            Check.due("an example that answers nothing: " + line, line.contains("//"), false);
            return line;
        }
        String call = answered.group(1);
        String what = '"' + call.replace("\"", "\\\"") + '"';
        Matcher thrown = THROWN.matcher(answered.group(2));
        if (thrown.matches()) {
            return "Check.throwsJust(" + what + ", " + thrown.group(1) + ".class, () -> " + call + ");";
        }
        return "Check.due(" + what + ", " + call + ", " + due(line, answered.group(2)) + ");";
    }

    /** A text goes to its last quotation mark: it may hold a ": " itself. */
    private static String due(String line, String answer) {
        return answer.startsWith("\"") ? line.substring(line.indexOf("// ") + 3, line.lastIndexOf('"') + 1) : answer;
    }

    private static int run(String program) throws Exception {
        Path folder = Files.createTempDirectory("readme");
        Path source = folder.resolve(PROGRAM + ".java");
        Files.writeString(source, program);
        String path = System.getProperty("java.class.path");
        int compiled = ToolProvider.getSystemJavaCompiler().run(null, null, null, "-cp", path, "-d", folder.toString(),
                source.toString());
        int answer = compiled != 0 ? compiled : new ProcessBuilder(
                Path.of(System.getProperty("java.home"), "bin", "java").toString(), "-cp",
                path + File.pathSeparator + folder, PROGRAM).inheritIO().start().waitFor();
        for (File file : folder.toFile().listFiles()) {
            Files.delete(file.toPath());
        }
        Files.delete(folder);
        return answer;
    }

    // ---- the tables

    private static void calls(List<String> lines) {
        List<String> got = new ArrayList<>();
        for (String line : lines) {
            Matcher call = CALL.matcher(line);
            if (call.matches()) {
                int parameters = call.group(2).isEmpty() ? 0 : call.group(2).split(", ").length;
                got.add(call.group(1) + " " + parameters + " " + exceptions(line));
                Check.due("it is said that nothing is refused: " + call.group(1),
                        line.endsWith("| never |"), exceptions(line).isEmpty());
            }
        }
        List<String> due = new ArrayList<>();
        for (Method method : Turnwright.class.getDeclaredMethods()) {
            if (Modifier.isPublic(method.getModifiers())) {
                List<String> thrown = Arrays.stream(method.getExceptionTypes()).map(Class::getSimpleName).toList();
                due.add(method.getName() + " " + method.getParameterCount() + " " + thrown);
            }
        }
        Check.due("the calls in the tables", String.join("\n", got.stream().sorted().toList()),
                String.join("\n", due.stream().sorted().toList()));
    }

    private static List<String> exceptions(String line) {
        List<String> names = new ArrayList<>();
        Matcher exception = EXCEPTION.matcher(line);
        while (exception.find()) {
            names.add(exception.group(1));
        }
        return names;
    }

    private static void tests(List<String> lines) {
        File[] files = Path.of("src/test/java").toFile().listFiles((folder, name) -> name.endsWith("Test.java"));
        for (File file : files) {
            String name = "`" + file.getName().replace(".java", "") + "`";
            Check.due("the table of tests has " + name,
                    lines.stream().anyMatch(line -> line.startsWith("  | `") && line.contains(name)), true);
        }
        Check.due("how to run the tests", lines.contains("    .ci/run"), true);
    }
}
