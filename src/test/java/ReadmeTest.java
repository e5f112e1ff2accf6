import java.io.ByteArrayOutputStream;
import java.io.IOException;
import java.io.PrintStream;
import java.lang.reflect.Method;
import java.net.URL;
import java.net.URLClassLoader;
import java.nio.file.Files;
import java.nio.file.Path;
import java.util.Set;
import java.util.TreeSet;
import java.util.regex.Matcher;
import java.util.regex.Pattern;
import java.util.spi.ToolProvider;
import java.util.stream.Collectors;
import java.util.stream.Stream;

/** What README.md tells: its example prints what stands behind it, and the tests that it names are those there are. */
public final class ReadmeTest {
    private static final Path PAGE = Path.of("README.md");
    private static final Path TESTS = Path.of("src/test/java");
    private static final Path BUILD = Path.of("build/readme");
    private static final int PROMISES = 20;

    public static void main(String[] args) throws Exception {
        String page = Files.readString(PAGE);
        example(block(page, "java"), block(page, "text"));
        testsThatAreNamed(page);
        functionsThatAreNamed(page);
        promises(page);
        Check.end();
    }

    /** The first block of a language on the page. */
    private static String block(String page, String language) {
        Matcher matcher = Pattern.compile("```" + language + "\n(.*?)```", Pattern.DOTALL).matcher(page);
        boolean found = matcher.find();
        Check.due("the page has a block of " + language, found ? 1 : 0, 1);
        return found ? matcher.group(1) : "";
    }

    private static void example(String source, String due) throws Exception {
        Files.createDirectories(BUILD);
        Path file = BUILD.resolve("Example.java");
        Files.writeString(file, source);
        ToolProvider compiler = ToolProvider.findFirst("javac").orElseThrow();
        int failed = compiler.run(System.out, System.out, "-cp", System.getProperty("java.class.path"),
            "-d", BUILD.toString(), file.toString());
        Check.due("the example compiles", failed, 0);
        if (failed == 0) {
            Check.due("the example prints what is told", printed().equals(due) ? 1 : 0, 1);
        }
    }

    private static String printed() throws Exception {
        PrintStream screen = System.out;
        ByteArrayOutputStream kept = new ByteArrayOutputStream();
        try (URLClassLoader loader = new URLClassLoader(new URL[] {BUILD.toUri().toURL()})) {
            Method main = loader.loadClass("Example").getMethod("main", String[].class);
            System.setOut(new PrintStream(kept, true));
            main.invoke(null, (Object) new String[0]);
        } finally {
            System.setOut(screen);
        }
        return kept.toString().replace(System.lineSeparator(), "\n");
    }

    private static Set<String> testsThatAre() throws IOException {
        try (Stream<Path> files = Files.list(TESTS)) {
            return files.map(file -> file.getFileName().toString()).filter(name -> name.endsWith("Test.java"))
                .map(name -> name.replace(".java", "")).collect(Collectors.toCollection(TreeSet::new));
        }
    }

    /** The table of tests has a row for each test that .ci/run runs, and no other. */
    private static void testsThatAreNamed(String page) throws IOException {
        Set<String> named = new TreeSet<>();
        Matcher rows = Pattern.compile("(?m)^\\| `(\\w+Test)` \\|").matcher(page);
        while (rows.find()) {
            named.add(rows.group(1));
        }
        Set<String> are = testsThatAre();
        Check.due("tests named " + named + ", there are " + are, named.equals(are) ? 1 : 0, 1);
    }

    private static void functionsThatAreNamed(String page) throws Exception {
        Matcher names = Pattern.compile("`(\\w+Test)\\.(\\w+)`").matcher(page);
        while (names.find()) {
            String test = names.group(1);
            String function = names.group(2);
            boolean there = testsThatAre().contains(test)
                && Stream.of(Class.forName(test).getDeclaredMethods()).anyMatch(one -> one.getName().equals(function));
            Check.due("there is " + names.group(), there ? 1 : 0, 1);
        }
    }

    /** Each promise has a row, with tests of ordinary inputs, of edges and, if it takes any, of wrong inputs. */
    private static void promises(String page) {
        Matcher rows = Pattern.compile("(?m)^\\| (\\d+) `\\w+(?:\\(\\))?` \\| `(.+)` \\| `(.+)` \\| (`.+`|takes none) \\|$").matcher(page);
        int next = 1;
        while (rows.find()) {
            Check.due("the row of promise " + next, Integer.parseInt(rows.group(1)), next);
            next++;
        }
        Check.due("rows of promises", next - 1, PROMISES);
    }
}
