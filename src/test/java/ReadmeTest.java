import java.io.IOException;
import java.lang.reflect.Method;
import java.lang.reflect.Modifier;
import java.net.URL;
import java.net.URLClassLoader;
import java.nio.file.Files;
import java.nio.file.Path;
import java.util.ArrayList;
import java.util.List;
import java.util.regex.Matcher;
import java.util.regex.Pattern;
import java.util.stream.Stream;
import javax.tools.ToolProvider;

/** That README.md holds: its examples answer as it says, and it names each call, each test and the command that runs them. */
public final class ReadmeTest {
    private static final Path README = Path.of("README.md");
    private static final Path TESTS = Path.of("src/test/java");
    private static final String ARROW = "// -> ";
    /** A call, its variable if it has one, and the answer that the remark behind it tells. */
    private static final Pattern EXAMPLE = Pattern.compile("(?:int (\\w+) = )?(.+);\\s+" + ARROW + "([\\w.-]+)(?:: .*)?");

    private static int wrong;

    public static void main(String[] args) throws ReflectiveOperationException, IOException {
        List<String> lines = Files.readAllLines(README);
        int examples = runExamples(lines);
        if (examples == 0) tell("it has no examples");
        namesAll(String.join("\n", lines));
        System.out.println("ReadmeTest: " + examples + " examples, " + wrong + " differences");
        if (wrong != 0) System.exit(1);
    }

    private static void tell(String what) {
        wrong++;
        System.out.println("README.md: " + what);
    }

    /** Called by the examples, once they are compiled. */
    public static void due(String example, Object got, Object want) {
        if (!got.equals(want)) tell(example + " answered " + got);
    }

    // ---- the examples

    private static int runExamples(List<String> lines) throws ReflectiveOperationException, IOException {
        StringBuilder source = new StringBuilder("public final class ReadmeExamples {\n  public static void run() {\n");
        int examples = 0;
        for (String line : javaOf(lines)) {
            Matcher example = EXAMPLE.matcher(line);
            if (example.matches()) {
                examples++;
                source.append(checked(line, example.group(1), example.group(2), example.group(3)));
            } else {
                if (line.contains(ARROW)) tell("an example that can't be read: " + line);
                source.append(line).append('\n');
            }
        }
        compileAndRun(source.append("  }\n}\n").toString());
        return examples;
    }

    /** The lines of all parts with Java, as if they were one. */
    private static List<String> javaOf(List<String> lines) {
        List<String> java = new ArrayList<>();
        boolean isJava = false;
        for (String line : lines) {
            if (line.startsWith("```")) isJava = line.equals("```java");
            else if (isJava) java.add(line);
        }
        return java;
    }

    private static String checked(String line, String variable, String call, String answer) {
        String want = answer.startsWith("N") || answer.startsWith("I") || answer.startsWith("L") ? "WrongedMeters." + answer : answer;
        String told = '"' + line.replace("\\", "\\\\").replace("\"", "\\\"") + '"';
        String ahead = variable == null ? "" : "int " + variable + " = " + call + ";\n";
        return ahead + "ReadmeTest.due(" + told + ", " + (variable == null ? call : variable) + ", " + want + ");\n";
    }

    private static void compileAndRun(String source) throws ReflectiveOperationException, IOException {
        Path out = Files.createTempDirectory("readme");
        Path file = out.resolve("ReadmeExamples.java");
        try {
            Files.writeString(file, source);
            String classes = System.getProperty("java.class.path");
            int status = ToolProvider.getSystemJavaCompiler().run(null, null, null, "-cp", classes, "-d", out.toString(), file.toString());
            if (status != 0) {
                tell("its examples do not compile");
                return;
            }
            try (URLClassLoader loader = new URLClassLoader(new URL[] {out.toUri().toURL()}, ReadmeTest.class.getClassLoader())) {
                loader.loadClass("ReadmeExamples").getMethod("run").invoke(null);
            }
        } finally {
            Files.deleteIfExists(out.resolve("ReadmeExamples.class"));
            Files.deleteIfExists(file);
            Files.deleteIfExists(out);
        }
    }

    // ---- what it names

    private static void namesAll(String text) throws IOException {
        for (Method method : WrongedMeters.class.getDeclaredMethods()) {
            String call = "`" + method.getName() + "(";
            if (Modifier.isPublic(method.getModifiers()) && !text.contains(call)) tell("it names no " + call + ")`");
        }
        try (Stream<Path> files = Files.list(TESTS)) {
            files.map(file -> file.getFileName().toString()).filter(name -> name.endsWith("Test.java")).sorted().forEach(name -> {
                String test = "- `" + name.substring(0, name.length() - ".java".length()) + "`";
                if (!text.contains(test)) tell("it names no " + test);
            });
        }
        if (!text.contains("\n    .ci/run\n")) tell("it names no command");
        if (!Files.isExecutable(Path.of(".ci/run"))) tell("the command that it names can't be run");
    }
}
