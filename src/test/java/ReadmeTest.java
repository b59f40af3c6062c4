import java.io.ByteArrayOutputStream;
import java.io.File;
import java.io.IOException;
import java.io.PrintStream;
import java.lang.reflect.Method;
import java.lang.reflect.Modifier;
import java.net.URL;
import java.net.URLClassLoader;
import java.nio.file.Files;
import java.nio.file.Path;
import java.util.ArrayList;
import java.util.Arrays;
import java.util.Comparator;
import java.util.List;
import java.util.regex.Matcher;
import java.util.regex.Pattern;
import java.util.stream.Stream;
import javax.tools.ToolProvider;

/** README.md: its example compiles and answers as it says, and it names every call and every test. */
public final class ReadmeTest {
    private static final Pattern EXAMPLE = Pattern.compile("(?s)```java\n(.*?)```");
    private static final Pattern SAID = Pattern.compile("System\\.out\\.println\\(.*\\); *// (-?\\d+): \\w.*");
    private static int wrong = 0;

    private static void check(boolean holds, String what) {
        if (!holds) {
            wrong++;
            System.out.println(what);
        }
    }

    public static void main(String[] args) throws Exception {
        Path project = Path.of(System.getProperty("project"));
        String readme = Files.readString(project.resolve("README.md"));
        int answers = example(readme);
        calls(readme);
        tests(readme, project.resolve("src/test/java"));
        System.out.println(answers + " answers of the example, " + wrong + " things not as README.md says");
        if (wrong != 0) {
            System.exit(1);
        }
    }

    /** How many answers the example tells. */
    private static int example(String readme) throws Exception {
        Matcher found = EXAMPLE.matcher(readme);
        if (!found.find()) {
            check(false, "there is no example");
            return 0;
        }
        List<String> said = said(found.group(1));
        List<String> answered = run(found.group(1));
        check(!said.isEmpty(), "the example says no answer");
        check(answered.equals(said), "the example answers " + answered + " and says " + said);
        return answered.size();
    }

    private static List<String> said(String code) {
        List<String> said = new ArrayList<>();
        for (String line : code.split("\n")) {
            if (line.contains("println")) {
                Matcher matcher = SAID.matcher(line.strip());
                check(matcher.matches(), "it is not said what this answers: " + line);
                said.add(matcher.matches() ? matcher.group(1) : "");
            }
        }
        return said;
    }

    private static List<String> run(String code) throws Exception {
        Path place = Files.createTempDirectory("example");
        try {
            Path source = Files.writeString(place.resolve("Example.java"), code);
            int failed = ToolProvider.getSystemJavaCompiler().run(null, null, null, "--release", "17", "-Xlint:all",
                "-Werror", "-cp", System.getProperty("java.class.path"), "-d", place.toString(), source.toString());
            check(failed == 0, "the example does not compile");
            return failed == 0 ? printed(place.toFile()) : List.of();
        } finally {
            remove(place);
        }
    }

    private static List<String> printed(File place) throws Exception {
        ByteArrayOutputStream bytes = new ByteArrayOutputStream();
        PrintStream was = System.out;
        try (URLClassLoader loader = new URLClassLoader(new URL[] {place.toURI().toURL()});
                PrintStream out = new PrintStream(bytes)) {
            System.setOut(out);
            loader.loadClass("Example").getMethod("main", String[].class).invoke(null, (Object) new String[0]);
        } finally {
            System.setOut(was);
        }
        return bytes.toString().lines().toList();
    }

    private static void remove(Path place) throws IOException {
        try (Stream<Path> all = Files.walk(place)) {
            for (Path path : all.sorted(Comparator.reverseOrder()).toList()) {
                Files.delete(path);
            }
        }
    }

    private static void calls(String readme) {
        // Of the text, not of the example: there each call is told by its numbers' names.
        String text = EXAMPLE.matcher(readme).replaceAll("");
        for (Method call : WeatherPass.class.getDeclaredMethods()) {
            if (Modifier.isPublic(call.getModifiers())) {
                int numbers = call.getParameterCount();
                String names = numbers == 0 ? "" : "\\w+(, \\w+){" + (numbers - 1) + "}";
                check(Pattern.compile("`" + call.getName() + "\\(" + names + "\\)`").matcher(text).find(),
                    "README.md does not tell the call " + call.getName());
            }
        }
        Arrays.stream(WeatherPass.class.getFields()).forEach(constant ->
            check(text.contains("`" + constant.getName() + "`"), "README.md does not tell " + constant.getName()));
    }

    private static void tests(String readme, Path folder) throws IOException {
        check(readme.contains("\n    .ci/run\n"), "README.md does not tell how to run the tests");
        try (Stream<Path> files = Files.list(folder)) {
            for (Path file : files.toList()) {
                String name = file.getFileName().toString().replace(".java", "");
                check(readme.contains("- `" + name + "`:"), "README.md does not tell the test " + name);
            }
        }
    }
}
