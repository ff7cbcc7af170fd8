import java.io.ByteArrayOutputStream;
import java.io.PrintStream;
import java.lang.reflect.InvocationTargetException;
import java.net.URL;
import java.net.URLClassLoader;
import java.nio.charset.StandardCharsets;
import java.nio.file.Files;
import java.nio.file.Path;
import java.util.ArrayList;
import java.util.Comparator;
import java.util.List;
import java.util.regex.Matcher;
import java.util.regex.Pattern;
import java.util.stream.Stream;
import javax.tools.JavaCompiler;
import javax.tools.ToolProvider;

/** README.md: its example compiles with the class and answers as it says, and it names every call and every refusal. */
public final class ReadmeTest {
    private static final Path README = Path.of("README.md");
    private static final Path DOCUMENT = Path.of("../shared/DOC.md");

    private ReadmeTest() {
    }

    public static void main(String[] args) throws Exception {
        String readme = Files.readString(README, StandardCharsets.UTF_8);
        example(readme);
        calls(readme);
        refusals(readme);
        tests(readme);
        Check.end("ReadmeTest");
    }

    private static void example(String readme) throws Exception {
        List<String> sources = blocks(readme);
        Check.is("java examples in README.md", sources.size(), 1);
        Path folder = Files.createTempDirectory("readme");
        try {
            for (String source : sources) {
                List<String> due = answersTold(source);
                Check.holds("the example tells answers", due.size() > 10);
                List<String> got = run(folder, source);
                Check.is("lines that the example prints", got.size(), due.size());
                for (int i = 0; i < Math.min(due.size(), got.size()); i++) {
                    Check.holds("line " + i + " of the example is " + got.get(i) + ", README.md says " + due.get(i),
                        got.get(i).equals(due.get(i)));
                }
            }
        } finally {
            remove(folder);
        }
    }

    private static List<String> blocks(String readme) {
        List<String> found = new ArrayList<>();
        Matcher m = Pattern.compile("(?ms)^```java\\n(.*?)^```$").matcher(readme);
        while (m.find()) {
            found.add(m.group(1));
        }
        return found;
    }

    /** What stands behind each println; one without an answer tells nothing and is a fault. */
    private static List<String> answersTold(String source) {
        List<String> told = new ArrayList<>();
        for (String line : source.split("\n")) {
            if (line.contains("println")) {
                Matcher m = Pattern.compile(";\\s+// (-?\\d+)$").matcher(line);
                boolean isTold = m.find();
                Check.holds(line.trim() + " tells its answer", isTold);
                told.add(isTold ? m.group(1) : "");
            }
        }
        return told;
    }

    private static List<String> run(Path folder, String source) throws Exception {
        Path file = folder.resolve("Example.java");
        Files.writeString(file, source, StandardCharsets.UTF_8);
        JavaCompiler compiler = ToolProvider.getSystemJavaCompiler();
        Check.holds("there is a compiler", compiler != null);
        int failed = compiler == null ? 1 : compiler.run(null, null, null, "-Xlint:all", "-Werror", "-cp",
            System.getProperty("java.class.path"), "-d", folder.toString(), file.toString());
        Check.is("the example compiles with the class", failed, 0);
        return failed == 0 ? linesPrinted(folder) : new ArrayList<>();
    }

    private static List<String> linesPrinted(Path folder) throws Exception {
        ByteArrayOutputStream bytes = new ByteArrayOutputStream();
        PrintStream screen = System.out;
        try (URLClassLoader loader = new URLClassLoader(new URL[] {folder.toUri().toURL()},
                ReadmeTest.class.getClassLoader())) {
            System.setOut(new PrintStream(bytes, true, StandardCharsets.UTF_8));
            Class.forName("Example", true, loader).getMethod("main", String[].class).invoke(null, (Object) new String[0]);
        } catch (InvocationTargetException e) {
            System.setOut(screen);
            Check.holds("the example throws " + e.getCause(), false);
        } finally {
            System.setOut(screen);
        }
        return bytes.toString(StandardCharsets.UTF_8).lines().toList();
    }

    private static void remove(Path folder) throws Exception {
        try (Stream<Path> files = Files.walk(folder)) {
            for (Path file : files.sorted(Comparator.reverseOrder()).toList()) {
                Files.delete(file);
            }
        }
    }

    /** A row of a table for each call of the document, with what it takes by name, and for no other. */
    private static void calls(String readme) throws Exception {
        Matcher m = Pattern.compile("(?m)^    public (?:int|long) (\\w+)\\((.*)\\);$").matcher(
            Files.readString(DOCUMENT, StandardCharsets.UTF_8));
        int calls = 0;
        while (m.find()) {
            calls++;
            String call = m.group(1) + "(" + m.group(2).replaceAll("(int|long) ", "") + ")";
            Check.is("rows for " + call, rows(readme, Pattern.quote("`" + call + "`")), 1);
        }
        Check.is("calls in the document", calls, 46);
        Check.is("rows for calls", rows(readme, "`\\w+\\([^`]*\\)`"), 46);
    }

    private static void refusals(String readme) {
        for (String answer : new String[] {"-1", "-2", "-3", "-11", "-12", "-13", "-14", "-2000000000", "`Long.MIN_VALUE`",
            "-100 and less"}) {
            Check.is("rows for the answer " + answer, rows(readme, Pattern.quote(answer)), 1);
        }
        for (String pair : new String[] {"-1 | `BAD`", "-2 | `NOT`", "-3 | `FULL`", "-2000000000 | `VOID`"}) {
            Check.is("rows for " + pair, rows(readme, Pattern.quote(pair)), 1);
        }
    }

    private static int rows(String readme, String firstCell) {
        Matcher m = Pattern.compile("(?m)^\\| " + firstCell + " \\|").matcher(readme);
        int found = 0;
        while (m.find()) {
            found++;
        }
        return found;
    }

    /** That README.md says how to run the tests, and that the tests it names are there. */
    private static void tests(String readme) {
        Check.holds(".ci/run is told", readme.contains("`.ci/run`"));
        Check.holds(".ci/run can be run", Files.isExecutable(Path.of(".ci/run")));
        Matcher m = Pattern.compile("\\b\\w+Test\\b").matcher(readme);
        while (m.find()) {
            Check.holds(m.group() + " is there", Files.exists(Path.of("src/test/java", m.group() + ".java")));
        }
    }
}
