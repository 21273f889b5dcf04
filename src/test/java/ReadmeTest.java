import java.io.IOException;
import java.io.StringWriter;
import java.lang.reflect.Field;
import java.lang.reflect.Method;
import java.lang.reflect.Modifier;
import java.net.URL;
import java.net.URLClassLoader;
import java.nio.file.Files;
import java.nio.file.Path;
import java.util.ArrayList;
import java.util.List;
import java.util.Set;
import java.util.TreeSet;
import java.util.function.Supplier;
import java.util.regex.Matcher;
import java.util.regex.Pattern;
import java.util.stream.Stream;
import javax.tools.JavaCompiler;
import javax.tools.ToolProvider;

/**
 * Each answer that README.md shows is the one that the class gives. The calls are compiled as they
 * stand there, so that a reader can take them over.
 */
final class ReadmeTest {
    private static final Path README = Path.of("README.md");
    private static final Path TESTS = Path.of("src/test/java");

    private static final String NEW_LEDGER = "Privacyledger ledger = new Privacyledger();";
    /** A call, kept in a variable or not, with its answer; words for the reader after a colon. */
    private static final Pattern CALL = Pattern.compile(
            "(int (\\w+) = )?(ledger\\.\\w+\\([^;]*\\)); +// ([^:]+)(: .+)?");
    private static final String THROWS = "throws ";
    private static final Pattern NAMED_TEST = Pattern.compile("\\| `(\\w+Test)` \\|");

    private static final Check CHECK = new Check();

    public static void main(String[] args) throws IOException, ReflectiveOperationException {
        List<String> readme = Files.readAllLines(README);
        List<String> calls = linesOfJava(readme);
        answersAreAsShown(calls);
        everyMemberIsShown(String.join("\n", calls));
        everyTestIsNamed(String.join("\n", readme));
        CHECK.end();
    }

    private static List<String> linesOfJava(List<String> readme) {
        List<String> lines = new ArrayList<>();
        boolean isJava = false;
        for (String line : readme) {
            if (line.startsWith("```")) {
                isJava = line.equals("```java");
            } else if (isJava && !line.isBlank()) {
                lines.add(line);
            }
        }
        return lines;
    }

    private static void answersAreAsShown(List<String> lines)
            throws IOException, ReflectiveOperationException {
        StringBuilder body = new StringBuilder();
        List<String> calls = new ArrayList<>();
        for (String line : lines) {
            Matcher call = CALL.matcher(line);
            if (line.equals(NEW_LEDGER)) {
                body.append(line).append('\n');
            } else if (call.matches()) {
                calls.add(line);
                appendCall(body, call);
            } else {
                CHECK.report("README.md tells no answer: " + line);
            }
        }
        List<String> answers = run(body.toString());
        CHECK.same("calls in README.md", answers.size(), 2 * calls.size());
        for (int i = 0; i < calls.size() && 2 * i + 1 < answers.size(); i++) {
            String got = answers.get(2 * i);
            if (!got.equals(answers.get(2 * i + 1))) {
                CHECK.report("README.md: " + calls.get(i) + " - the class answers " + got);
            }
        }
    }

    /** Puts down the class's answer, then the one that is shown. */
    private static void appendCall(StringBuilder body, Matcher call) {
        String variable = call.group(2);
        String shown = call.group(4);
        if (variable == null) {
            body.append("try { all.add(\"\" + (").append(call.group(3))
                    .append(")); } catch (RuntimeException e) { all.add(\"").append(THROWS)
                    .append("\" + e.getClass().getSimpleName()); }\n");
        } else {
            body.append(call.group(1)).append(call.group(3)).append("; all.add(\"\" + ")
                    .append(variable).append(");\n");
        }
        String due = shown.startsWith(THROWS) ? "\"" + shown + "\"" : "\"\" + (" + shown + ")";
        body.append("all.add(").append(due).append(");\n");
    }

    private static List<String> run(String body) throws IOException, ReflectiveOperationException {
        Path directory = Files.createTempDirectory("readme");
        Path source = directory.resolve("ReadmeCalls.java");
        Path compiled = directory.resolve("ReadmeCalls.class");
        try {
            Files.writeString(source, asClass(body));
            return isCompiled(source, directory) ? answers(directory) : List.of();
        } finally {
            Files.deleteIfExists(source);
            Files.deleteIfExists(compiled);
            Files.deleteIfExists(directory);
        }
    }

    private static String asClass(String body) {
        return "import java.util.*;\n"
                + "public final class ReadmeCalls\n"
                + "implements java.util.function.Supplier<List<String>> {\n"
                + "public List<String> get() {\n"
                + "List<String> all = new ArrayList<>();\n" + body + "return all;\n}\n}\n";
    }

    private static boolean isCompiled(Path source, Path directory) {
        JavaCompiler compiler = ToolProvider.getSystemJavaCompiler();
        if (compiler == null) {
            CHECK.report("this java has no compiler for README.md's calls");
            return false;
        }
        StringWriter complaints = new StringWriter();
        boolean isGood = compiler.getTask(complaints, null, null,
                List.of("-d", directory.toString(), "-cp", System.getProperty("java.class.path")),
                null, compiler.getStandardFileManager(null, null, null)
                        .getJavaFileObjects(source)).call();
        if (!isGood) {
            CHECK.report("README.md's calls do not compile: " + complaints);
        }
        return isGood;
    }

    private static List<String> answers(Path directory)
            throws IOException, ReflectiveOperationException {
        URL[] places = {directory.toUri().toURL()};
        try (URLClassLoader loader =
                new URLClassLoader(places, ReadmeTest.class.getClassLoader())) {
            Object calls = loader.loadClass("ReadmeCalls").getConstructor().newInstance();
            List<String> answers = new ArrayList<>();
            for (Object answer : (List<?>) ((Supplier<?>) calls).get()) {
                answers.add((String) answer);
            }
            return answers;
        }
    }

    private static void everyMemberIsShown(String calls) {
        for (Method method : Privacyledger.class.getDeclaredMethods()) {
            if (Modifier.isPublic(method.getModifiers())
                    && !calls.contains("ledger." + method.getName() + "(")) {
                CHECK.report("README.md shows no call of " + method.getName());
            }
        }
        for (Field field : Privacyledger.class.getDeclaredFields()) {
            if (Modifier.isPublic(field.getModifiers())
                    && !calls.contains("Privacyledger." + field.getName())) {
                CHECK.report("README.md does not show " + field.getName());
            }
        }
    }

    private static void everyTestIsNamed(String readme) throws IOException {
        Set<String> named = new TreeSet<>();
        Matcher rows = NAMED_TEST.matcher(readme);
        while (rows.find()) {
            named.add(rows.group(1));
        }
        Set<String> tests = new TreeSet<>();
        try (Stream<Path> files = Files.list(TESTS)) {
            files.map(file -> file.getFileName().toString().replace(".java", ""))
                    .filter(name -> name.endsWith("Test")).forEach(tests::add);
        }
        for (String test : tests) {
            CHECK.same("README.md names " + test, named.remove(test), true);
        }
        for (String test : named) {
            CHECK.report("README.md names a test that there is not: " + test);
        }
        if (!readme.contains("\n    .ci/run\n")) {
            CHECK.report("README.md does not tell how to run the tests");
        }
    }
}
