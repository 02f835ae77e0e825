import java.io.IOException;
import java.lang.reflect.Field;
import java.lang.reflect.Modifier;
import java.net.URL;
import java.net.URLClassLoader;
import java.nio.file.Files;
import java.nio.file.Path;
import java.util.ArrayList;
import java.util.List;
import java.util.regex.Matcher;
import java.util.regex.Pattern;
import javax.tools.JavaCompiler;
import javax.tools.ToolProvider;

/** What README.md shows is what the class answers: its examples are compiled and run as they stand there. */
public final class ReadmeTest {
    private static final Check check = new Check();
    private static final Pattern EXAMPLE = Pattern.compile("(?s)```java\n(.*?)```");
    /** A call of its own line, with the answer in the comment behind it: a number, or a constant's name. */
    private static final Pattern SHOWN = Pattern.compile("page\\.(\\w+\\(.*\\)); +// (-?\\d+|[A-Z]+)(: .*)?");
    private static final Pattern REFUSAL = Pattern.compile("\\| `([A-Z]+)` \\| (-\\d+) \\|");

    public static void main(String[] args) throws IOException, ReflectiveOperationException {
        String readme = Files.readString(Path.of("README.md"));
        Matcher example = EXAMPLE.matcher(readme);
        int examples = 0;
        while (example.find()) {
            examples++;
            check.part("README example " + examples);
            run(example.group(1), "Example" + examples);
        }
        check.part("README");
        check.due("examples", examples, 2);
        refusals(readme);
        tests(readme);
        check.end();
    }

    private static long constant(String name) throws ReflectiveOperationException {
        return name.matches("-?\\d+") ? Long.parseLong(name) : TomorrowPage.class.getField(name).getInt(null);
    }

    private static void run(String lines, String name) throws IOException, ReflectiveOperationException {
        StringBuilder body = new StringBuilder();
        List<String> calls = new ArrayList<>();
        List<Long> due = new ArrayList<>();
        for (String line : lines.split("\n")) {
            Matcher shown = SHOWN.matcher(line);
            if (shown.matches()) {
                calls.add(shown.group(1));
                due.add(constant(shown.group(2)));
                body.append("got.add((long) page.").append(shown.group(1)).append(");\n");
            } else {
                check.due("an answer is shown: " + line, line.startsWith("page.") ? 1 : 0, 0);
                body.append(line).append("\n");
            }
        }
        List<?> got = answers(name, body.toString());
        check.due("answers", got.size(), due.size());
        for (int i = 0; i < due.size(); i++) {
            check.due(calls.get(i), (Long) got.get(i), due.get(i));
        }
    }

    private static List<?> answers(String name, String body) throws IOException, ReflectiveOperationException {
        Path folder = Files.createTempDirectory("readme");
        Path source = folder.resolve(name + ".java");
        Path compiled = folder.resolve(name + ".class");
        Files.writeString(source, "public final class " + name + " {\n public static java.util.List<Long> answers() {\n"
            + "java.util.List<Long> got = new java.util.ArrayList<>();\n" + body + "return got;\n}\n}\n");
        JavaCompiler compiler = ToolProvider.getSystemJavaCompiler();
        int failed = compiler.run(null, null, null, "-cp", System.getProperty("java.class.path"), "-d", folder.toString(),
            source.toString());
        check.due("it does not compile", failed, 0);
        try (URLClassLoader loader = new URLClassLoader(new URL[] {folder.toUri().toURL()})) {
            return failed != 0 ? List.of() : (List<?>) loader.loadClass(name).getMethod("answers").invoke(null);
        } finally {
            Files.deleteIfExists(compiled);
            Files.delete(source);
            Files.delete(folder);
        }
    }

    /** The table of refusals has each constant but NONE, with its number. */
    private static void refusals(String readme) throws ReflectiveOperationException {
        Matcher row = REFUSAL.matcher(readme);
        int rows = 0;
        while (row.find()) {
            rows++;
            check.due(row.group(1), Long.parseLong(row.group(2)), constant(row.group(1)));
        }
        int constants = 0;
        for (Field field : TomorrowPage.class.getFields()) {
            constants += Modifier.isStatic(field.getModifiers()) ? 1 : 0;
        }
        check.due("refusals", rows, constants - 1);
        check.due("NONE is told", readme.contains("`NONE` (" + TomorrowPage.NONE + ")") ? 1 : 0, 1);
    }

    /** Each test of the project is named, and the document, the language and the way to run them, too. */
    private static void tests(String readme) throws IOException {
        try (var files = Files.list(Path.of("src/test/java"))) {
            for (Path file : (Iterable<Path>) files::iterator) {
                String name = file.getFileName().toString().replace(".java", "");
                if (name.endsWith("Test")) {
                    check.due(name + " is told", readme.contains("- `" + name + "`: ") ? 1 : 0, 1);
                }
            }
        }
        for (String told : new String[] {"../shared/DOC.md", "../shared/LANGUAGE.md", "../shared/tests", ".ci/run", "NOTES.md"}) {
            check.due(told + " is told", readme.contains(told) ? 1 : 0, 1);
        }
    }
}
