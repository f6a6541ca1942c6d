import java.lang.reflect.Method;
import java.lang.reflect.Modifier;
import java.nio.file.Files;
import java.nio.file.Path;
import java.util.List;
import java.util.regex.Matcher;
import java.util.regex.Pattern;
import javax.tools.ToolProvider;

/**
 * README.md holds for the class as it stands: its example compiles, and each line answers what stands
 * behind it; each call of the face has its row, with its arguments' count and what it throws.
 */
final class ReadmeTest {
    private static final String EXAMPLE = "ReadmeExample";
    private static final Pattern MAKING = Pattern.compile("PushNotices \\w+ = new PushNotices\\(\\);");
    private static final Pattern NAMED = Pattern.compile("(int|boolean) (\\w+) = (.+);");
    private static final Pattern LINE = Pattern.compile("(.+;) +// (throws \\w+|-?\\d+|true|false)(: .+)?");
    private static final Pattern ROW = Pattern.compile("\\| `(\\w+)\\(([^)]*)\\)` \\|(.+)\\|(.*)\\|");
    private static final Pattern EXCEPTION = Pattern.compile("`(\\w+Exception)`");
    private static final Checks CHECKS = new Checks("ReadmeTest");

    public static void main(String[] args) throws Exception {
        List<String> readme = Files.readAllLines(Path.of("README.md"));
        runExample(readme);
        comparesRows(readme);
        CHECKS.end();
    }

    // The example becomes a class in the directory of this one, so that it may use Checks.
    private static void runExample(List<String> readme) throws Exception {
        Path directory = Path.of(ReadmeTest.class.getProtectionDomain().getCodeSource().getLocation().toURI());
        Path source = directory.resolve(EXAMPLE + ".java");
        Files.writeString(source, exampleOf(readme));
        int failed = ToolProvider.getSystemJavaCompiler().run(null, null, null,
                "-cp", directory.toString(), "-d", directory.toString(), source.toString());
        CHECKS.same("the example compiles", 0, failed);
        if (failed == 0) {
            Class.forName(EXAMPLE).getDeclaredMethod("run", Checks.class).invoke(null, CHECKS);
        }
    }

    private static String exampleOf(List<String> readme) {
        StringBuilder code = new StringBuilder("final class " + EXAMPLE + " {\n    static void run(Checks checks) {\n");
        boolean isInside = false;
        int blocks = 0;
        for (String line : readme) {
            if (line.startsWith("```")) {
                isInside = line.equals("```java");
                blocks += isInside ? 1 : 0;
            } else if (isInside && !line.isEmpty()) {
                appendLine(code, line);
            }
        }
        CHECKS.same("there is one example", 1, blocks);
        return code.append("    }\n}\n").toString();
    }

    private static void appendLine(StringBuilder code, String line) {
        if (MAKING.matcher(line).matches()) {
            code.append(line).append('\n');
            return;
        }
        Matcher parts = LINE.matcher(line);
        boolean isWhole = parts.matches();
        CHECKS.same("an answer stands behind: " + line, true, isWhole);
        if (!isWhole) {
            return;
        }
        String call = parts.group(1);
        String due = parts.group(2).replaceFirst("throws (\\w+)", "\"throws.$1\"");
        Matcher named = NAMED.matcher(call);
        if (named.matches()) {
            code.append(call).append('\n');
            call = named.group(2) + ";";
        }
        code.append("checks.same(\"").append(call).append("\", ").append(due).append(", Checks.outcome(() -> ")
                .append(call, 0, call.length() - 1).append("));\n");
    }

    private static void comparesRows(List<String> readme) {
        StringBuilder rows = new StringBuilder();
        for (String line : readme) {
            Matcher row = ROW.matcher(line);
            if (row.matches()) {
                rows.append(row.group(1)).append(' ').append(countOf(row.group(2)));
                Matcher thrown = EXCEPTION.matcher(row.group(4));
                while (thrown.find()) {
                    rows.append(' ').append(thrown.group(1));
                }
                rows.append('\n');
            }
        }
        int calls = 0;
        for (Method method : PushNotices.class.getDeclaredMethods()) {
            if (Modifier.isPublic(method.getModifiers())) {
                calls++;
                String due = rowOf(method);
                CHECKS.same("there is the row: " + due, true, ("\n" + rows).contains("\n" + due));
            }
        }
        CHECKS.same("rows", calls, (int) rows.chars().filter(sign -> sign == '\n').count());
    }

    private static int countOf(String arguments) {
        return arguments.isEmpty() ? 0 : arguments.split(",").length;
    }

    private static String rowOf(Method method) {
        StringBuilder row = new StringBuilder(method.getName() + " " + method.getParameterCount());
        for (Class<?> thrown : method.getExceptionTypes()) {
            row.append(' ').append(thrown.getSimpleName());
        }
        return row.append('\n').toString();
    }
}
