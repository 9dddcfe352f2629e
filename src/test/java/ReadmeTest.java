import java.io.IOException;
import java.lang.invoke.MethodHandles;
import java.lang.reflect.Method;
import java.lang.reflect.Modifier;
import java.nio.file.DirectoryStream;
import java.nio.file.Files;
import java.nio.file.Path;
import java.util.Set;
import java.util.TreeSet;
import java.util.regex.Matcher;
import java.util.regex.Pattern;
import javax.tools.ToolProvider;

/**
 * What README.md says holds: its example compiles and answers what its comments say, and it tells
 * every call and every test that there is, and no test that there is not. Runs where README.md lies.
 */
public final class ReadmeTest {
    private static final Pattern EXAMPLE = Pattern.compile("```java\n(.*?)```", Pattern.DOTALL);
    /** A line of the example whose comment begins with the answer. */
    private static final Pattern ANSWERED = Pattern.compile("(buses\\..*?); +// (-?\\d+|true|false)\\b.*");
    private static final Pattern TEST_ROW = Pattern.compile("^\\| `(\\w+Test)` \\|", Pattern.MULTILINE);
    private static final Due due = new Due();

    public static void main(String[] args) throws Exception {
        String readme = Files.readString(Path.of("README.md"));
        Matcher example = EXAMPLE.matcher(readme);
        due.yes("README.md has an example", example.find());
        runExample(example.group(1));
        tellsEveryCall(readme);
        tellsEveryTest(readme);
        due.end();
    }

    /** Each answered line becomes a check, and the others stay as they are. */
    private static String checksOf(String example) {
        StringBuilder checks = new StringBuilder();
        for (String line : example.lines().toList()) {
            Matcher answered = ANSWERED.matcher(line);
            if (answered.matches()) {
                String call = answered.group(1);
                String text = call.replace("\"", "\\\"");
                line = "due.is(\"README: " + text + "\", " + call + ", " + answered.group(2) + ");";
            }
            checks.append(line).append('\n');
        }
        return checks.toString();
    }

    private static void runExample(String example) throws Exception {
        String checks = checksOf(example);
        due.yes("the example tells answers", checks.contains("due.is("));
        Path out = Files.createTempDirectory("readme");
        Path source = out.resolve("Example.java");
        Path compiled = out.resolve("Example.class");
        try {
            Files.writeString(source, "final class Example { static void run(Due due) {\n" + checks + "}}\n");
            int code = ToolProvider.getSystemJavaCompiler().run(null, System.out, System.out,
                "-cp", System.getProperty("java.class.path"), "-d", out.toString(), source.toString());
            due.is("exit code of compiling the example", code, 0);
            if (code == 0) {
                callExample(compiled);
            }
        } finally {
            Files.deleteIfExists(source);
            Files.deleteIfExists(compiled);
            Files.deleteIfExists(out);
        }
    }

    /** Defined beside this class, since in a loader of its own it would not reach Due. */
    private static void callExample(Path compiled) throws Exception {
        byte[] code = Files.readAllBytes(compiled);
        Class<?> example = MethodHandles.lookup().defineClass(code);
        Method run = example.getDeclaredMethod("run", Due.class);
        run.invoke(null, due);
    }

    private static void tellsEveryCall(String readme) {
        for (Method m : CommandBuses.class.getDeclaredMethods()) {
            if (Modifier.isPublic(m.getModifiers())) {
                due.yes("README.md tells the call " + m.getName(), readme.contains("| `" + m.getName() + "("));
            }
        }
    }

    private static void tellsEveryTest(String readme) throws IOException {
        Set<String> told = new TreeSet<>();
        Matcher row = TEST_ROW.matcher(readme);
        while (row.find()) {
            told.add(row.group(1));
        }
        try (DirectoryStream<Path> tests = Files.newDirectoryStream(Path.of("src/test/java"), "*Test.java")) {
            for (Path test : tests) {
                String name = test.getFileName().toString().replace(".java", "");
                due.yes("README.md tells the test " + name, told.remove(name));
            }
        }
        for (String name : told) {
            due.no("README.md tells a test that is not there: " + name, true);
        }
    }
}
