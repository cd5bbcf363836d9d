import java.io.ByteArrayOutputStream;
import java.io.IOException;
import java.io.PrintStream;
import java.lang.reflect.Method;
import java.net.URL;
import java.net.URLClassLoader;
import java.nio.file.Files;
import java.nio.file.Path;
import java.util.ArrayList;
import java.util.Comparator;
import java.util.List;
import java.util.TreeMap;
import java.util.regex.Matcher;
import java.util.regex.Pattern;
import java.util.stream.Stream;
import javax.tools.ToolProvider;

/** README.md: its program prints what it says, and its tables name the exceptions and codes of the class. */
public final class ReadmeTest {
    public static void main(String[] args) throws Exception {
        String readme = Files.readString(Path.of("README.md"));
        Check.topic("README.md, ");
        String program = block(readme, "java");
        Check.same("what the program prints", block(readme, "text"), () -> printed(program));
        Check.same("exceptions", exceptionsOfTheClass(), () -> exceptionsOfTheTable(readme));
        Check.same("NO_TRACE", true, () -> readme.contains("| `NO_TRACE` | " + ExactTurtle.NO_TRACE + " |"));
        Check.same("NO_INDEX", true, () -> readme.contains("| `NO_INDEX` | " + ExactTurtle.NO_INDEX + " |"));
        Check.same("NEGATIVE_SIZE", true, () -> readme.contains("| `NEGATIVE_SIZE` | " + ExactTurtle.NEGATIVE_SIZE + " |"));
        Check.same("the code of a wrong text", -100 - 2, () -> Check.run(new ExactTurtle(), "f1)"));
        Check.same("the command for the tests", true, () -> readme.contains("\n    .ci/run\n") && Files.isExecutable(Path.of(".ci/run")));
        namesEveryTest(readme);
        Check.end();
    }

    private static String block(String readme, String kind) {
        Matcher block = Pattern.compile("```" + kind + "\n(.*?)```", Pattern.DOTALL).matcher(readme);
        return block.find() ? block.group(1) : "";
    }

    private static String printed(String program) {
        try {
            Path place = Files.createTempDirectory("readme");
            try {
                return printed(program, place);
            } finally {
                remove(place);
            }
        } catch (IOException | ReflectiveOperationException e) {
            return "cannot be run: " + e;
        }
    }

    private static String printed(String program, Path place) throws IOException, ReflectiveOperationException {
        Path source = Files.writeString(place.resolve("Square.java"), program);
        int failed = ToolProvider.getSystemJavaCompiler().run(null, null, null, "-d", place.toString(), source.toString(),
                "src/main/java/ExactTurtle.java");
        if (failed != 0) {
            return "cannot be compiled";
        }
        PrintStream before = System.out;
        ByteArrayOutputStream text = new ByteArrayOutputStream();
        ClassLoader above = ClassLoader.getPlatformClassLoader();
        try (URLClassLoader loader = new URLClassLoader(new URL[] {place.toUri().toURL()}, above);
                PrintStream out = new PrintStream(text, true)) {
            System.setOut(out);
            loader.loadClass("Square").getMethod("main", String[].class).invoke(null, (Object) new String[0]);
        } finally {
            System.setOut(before);
        }
        return text.toString().replace(System.lineSeparator(), "\n");
    }

    private static void remove(Path place) throws IOException {
        try (Stream<Path> files = Files.walk(place)) {
            for (Path file : files.sorted(Comparator.reverseOrder()).toList()) {
                Files.delete(file);
            }
        }
    }

    /** The exceptions of each method in their order, as the throws clauses name them. */
    private static String exceptionsOfTheClass() {
        TreeMap<String, List<String>> named = new TreeMap<>();
        for (Method method : ExactTurtle.class.getDeclaredMethods()) {
            for (Class<?> exception : method.getExceptionTypes()) {
                named.computeIfAbsent(method.getName(), name -> new ArrayList<>()).add(exception.getSimpleName());
            }
        }
        return named.toString();
    }

    private static String exceptionsOfTheTable(String readme) {
        TreeMap<String, List<String>> named = new TreeMap<>();
        Matcher row = Pattern.compile("\\| `(\\w+)` \\| `(\\w+Exception)` \\|").matcher(readme);
        while (row.find()) {
            named.computeIfAbsent(row.group(1), name -> new ArrayList<>()).add(row.group(2));
        }
        return named.toString();
    }

    private static void namesEveryTest(String readme) throws IOException {
        try (Stream<Path> files = Files.list(Path.of("src/test/java"))) {
            for (Path file : files.toList()) {
                String name = file.getFileName().toString().replace(".java", "");
                if (name.endsWith("Test")) {
                    Check.same("names " + name, true, () -> readme.contains("- `" + name + "`"));
                }
            }
        }
    }
}
