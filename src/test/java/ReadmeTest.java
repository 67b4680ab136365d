import java.io.IOException;
import java.io.UncheckedIOException;
import java.lang.reflect.Method;
import java.lang.reflect.Modifier;
import java.net.URL;
import java.net.URLClassLoader;
import java.nio.file.Files;
import java.nio.file.Path;
import java.util.ArrayList;
import java.util.List;
import java.util.Set;
import java.util.TreeSet;
import java.util.regex.Matcher;
import java.util.regex.Pattern;
import java.util.stream.Stream;

/** What README.md says: its examples' answers, the calls and the tests that it names. */
public final class ReadmeTest {
    private static final Path README = Path.of("README.md");
    private static final Path TESTS = Path.of("src/test/java");
    private static final Pattern EXAMPLE = Pattern.compile("```java\n(.*?)```", Pattern.DOTALL);
    private static final Pattern NAMED =
            Pattern.compile("(?:int (\\w+) = )?(.*);\\s*// (answers|throws) ([^:\\s]+).*");
    private static final String RUNNER = "ReadmeExamples";

    private ReadmeTest() {
    }

    public static void main(String[] args) {
        Check.test("the examples answer what README.md names", ReadmeTest::examples);
        Check.test("README.md names every call", ReadmeTest::calls);
        Check.test("README.md names every test, and no other", ReadmeTest::tests);
        Check.test("README.md tells how to run the tests", ReadmeTest::running);
        Check.end();
    }

    private static String readme() {
        return read(README);
    }

    private static String read(Path path) {
        try {
            return Files.readString(path);
        } catch (IOException e) {
            throw new UncheckedIOException(e);
        }
    }

    private static void examples() {
        List<String> calls = new ArrayList<>();
        List<String> due = new ArrayList<>();
        StringBuilder body = new StringBuilder();
        Matcher example = EXAMPLE.matcher(readme());
        int examples = 0;
        while (example.find()) {
            examples++;
            body.append("{\n").append(recording(example.group(1), calls, due)).append("}\n");
        }
        Check.due("examples", examples, 3);
        Check.due("each example names answers", due.size() > 3 * examples, true);
        List<String> got = run(body.toString());
        Check.due("answers got", got.size(), due.size());
        for (int index = 0; index < Math.min(got.size(), due.size()); index++) {
            Check.due(calls.get(index), got.get(index), due.get(index));
        }
    }

    /** The example with each call whose answer is named made to record what it answers. */
    private static String recording(String example, List<String> calls, List<String> due) {
        StringBuilder body = new StringBuilder();
        for (String line : example.split("\n")) {
            Matcher named = NAMED.matcher(line);
            if (!named.matches()) {
                boolean silent = !line.contains("answers") && !line.contains("throws");
                Check.due("the line names no answer: " + line, silent, true);
                body.append(line).append('\n');
                continue;
            }
            calls.add(named.group(2));
            due.add(named.group(4));
            body.append(recorded(named)).append('\n');
        }
        return body.toString();
    }

    private static String recorded(Matcher named) {
        String call = named.group(2);
        if (named.group(3).equals("throws")) {
            return "try { got.add(\"\" + " + call + "); } catch (RuntimeException e) {"
                    + " got.add(e.getClass().getSimpleName()); }";
        }
        if (named.group(1) != null) {
            String name = named.group(1);
            return "int " + name + " = " + call + "; got.add(\"\" + " + name + ");";
        }
        return "got.add(\"\" + " + call + ");";
    }

    /** Compiles the examples and answers what they record. */
    private static List<String> run(String body) {
        try {
            Path place = Files.createTempDirectory("readme");
            Path source = place.resolve(RUNNER + ".java");
            try {
                Files.writeString(source, "public final class " + RUNNER + " {\n"
                        + "public static void run(java.util.List<String> got) {\n" + body + "}\n}\n");
                return compiledAndRun(place, source);
            } finally {
                Files.deleteIfExists(source);
                Files.deleteIfExists(place.resolve(RUNNER + ".class"));
                Files.delete(place);
            }
        } catch (IOException | InterruptedException | ReflectiveOperationException e) {
            throw new IllegalStateException("the examples do not run", e);
        }
    }

    private static List<String> compiledAndRun(Path place, Path source)
            throws IOException, InterruptedException, ReflectiveOperationException {
        String[] command = {"javac", "-encoding", "UTF-8", "-Xlint:all", "-Werror",
            "-cp", System.getProperty("java.class.path"), "-d", place.toString(), source.toString()};
        int failed = new ProcessBuilder(command).inheritIO().start().waitFor();
        Check.due("compiling the examples", failed, 0);
        List<String> got = new ArrayList<>();
        URL[] where = {place.toUri().toURL()};
        try (URLClassLoader loader = new URLClassLoader(where, ReadmeTest.class.getClassLoader())) {
            loader.loadClass(RUNNER).getMethod("run", List.class).invoke(null, got);
        }
        return got;
    }

    private static void calls() {
        for (Method method : InkPrintery.class.getDeclaredMethods()) {
            if (Modifier.isPublic(method.getModifiers())) {
                isNamed(method);
            }
        }
    }

    private static void isNamed(Method method) {
        String call = "`" + method.getName() + "(";
        Matcher named = Pattern.compile(Pattern.quote(call) + "([a-z, ]*)\\)`").matcher(readme());
        Check.due(call + " is named", named.find(), true);
        named.reset();
        while (named.find()) {
            String parameters = named.group(1);
            int count = parameters.isEmpty() ? 0 : parameters.split(", ").length;
            Check.due(call + "'s parameters", count, method.getParameterCount());
        }
    }

    private static void tests() {
        Set<String> named = new TreeSet<>();
        Matcher name = Pattern.compile("`(\\w+Test)`").matcher(readme());
        while (name.find()) {
            named.add(name.group(1));
        }
        Check.due("the tests", named.toString(), testsThatStand().toString());
    }

    private static Set<String> testsThatStand() {
        try (Stream<Path> files = Files.list(TESTS)) {
            Set<String> standing = new TreeSet<>();
            files.map(file -> file.getFileName().toString())
                    .filter(file -> file.endsWith("Test.java"))
                    .forEach(file -> standing.add(file.replace(".java", "")));
            return standing;
        } catch (IOException e) {
            throw new UncheckedIOException(e);
        }
    }

    private static void running() {
        Check.due("it names .ci/run", readme().contains("\n    .ci/run\n"), true);
        Check.due(".ci/run is executable", Files.isExecutable(Path.of(".ci/run")), true);
        Matcher path = Pattern.compile("\\bsrc/[\\w/]+(\\.java)?").matcher(readme());
        while (path.find()) {
            Check.due(path.group() + " is there", Files.exists(Path.of(path.group())), true);
        }
    }
}
