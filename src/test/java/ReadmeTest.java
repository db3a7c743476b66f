import java.io.ByteArrayOutputStream;
import java.io.File;
import java.io.IOException;
import java.io.PrintStream;
import java.net.URL;
import java.net.URLClassLoader;
import java.nio.charset.StandardCharsets;
import java.nio.file.Files;
import java.nio.file.Path;
import java.util.ArrayList;
import java.util.List;
import java.util.regex.Matcher;
import java.util.regex.Pattern;
import javax.tools.ToolProvider;

/**
 * The example of README.md, compiled and run, answers as the page says behind each
 * call, and makes every call there is; the page names every test. Takes the
 * directory of the project as its argument.
 */
public final class ReadmeTest {
    private static final Check check = new Check();
    private static final Pattern ANSWER = Pattern.compile("println\\(.*\\); +// (-?\\d+)\\b.*");

    public static void main(String[] args) throws Exception {
        Path root = Path.of(args.length > 0 ? args[0] : ".");
        String page = Files.readString(root.resolve("README.md"));
        String example = example(page);
        answersAsSaid(example);
        makesEveryCall(example);
        namesEveryTest(page, root.resolve("src/test/java"));
        check.end("ReadmeTest");
    }

    private static String example(String page) {
        Matcher block = Pattern.compile("```java\n(.*?)```", Pattern.DOTALL).matcher(page);
        check.holds("README.md has an example", block.find());
        return block.group(1);
    }

    private static void answersAsSaid(String example) throws Exception {
        List<String> due = new ArrayList<>();
        List<String> calls = new ArrayList<>();
        for (String line : example.split("\n")) {
            if (line.contains("println(")) {
                Matcher answer = ANSWER.matcher(line.trim().replace("System.out.", ""));
                check.holds("an answer stands behind" + line, answer.matches());
                due.add(answer.group(1));
                calls.add(line.trim());
            }
        }
        List<String> printed = printedBy(example);
        check.same("printed lines", printed.size(), due.size());
        for (int i = 0; i < Math.min(due.size(), printed.size()); i++) {
            check.same(calls.get(i), Integer.parseInt(printed.get(i)), Integer.parseInt(due.get(i)));
        }
    }

    private static List<String> printedBy(String example) throws Exception {
        Path work = Files.createTempDirectory("readme");
        Path source = work.resolve("Example.java");
        Files.writeString(source, example);
        int failed = ToolProvider.getSystemJavaCompiler().run(null, null, null, "-d", work.toString(),
                "-cp", System.getProperty("java.class.path"), source.toString());
        check.same("the example is compiled", failed, 0);
        ByteArrayOutputStream printed = new ByteArrayOutputStream();
        PrintStream out = System.out;
        System.setOut(new PrintStream(printed, true, StandardCharsets.UTF_8));
        try (URLClassLoader loader = new URLClassLoader(new URL[] {work.toUri().toURL()})) {
            loader.loadClass("Example").getMethod("main", String[].class).invoke(null, (Object) new String[0]);
        } finally {
            System.setOut(out);
            remove(work);
        }
        return printed.toString(StandardCharsets.UTF_8).lines().toList();
    }

    private static void remove(Path work) throws IOException {
        for (File file : work.toFile().listFiles()) {
            Files.delete(file.toPath());
        }
        Files.delete(work);
    }

    private static void makesEveryCall(String example) {
        for (var method : TuneCatalogue.class.getMethods()) {
            if (method.getDeclaringClass() == TuneCatalogue.class) {
                check.holds("the example calls " + method.getName(),
                        example.contains("catalogue." + method.getName() + "("));
            }
        }
    }

    private static void namesEveryTest(String page, Path tests) {
        for (File file : tests.toFile().listFiles()) {
            String name = file.getName().replace(".java", "");
            check.holds("README.md names " + name, page.contains("`" + name + "`"));
        }
    }
}
