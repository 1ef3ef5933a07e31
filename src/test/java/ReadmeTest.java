import java.io.ByteArrayOutputStream;
import java.io.IOException;
import java.io.PrintStream;
import java.net.URL;
import java.net.URLClassLoader;
import java.nio.file.Files;
import java.nio.file.Path;
import java.util.ArrayList;
import java.util.List;
import java.util.regex.Matcher;
import java.util.regex.Pattern;
import javax.tools.ToolProvider;

/** The example in README.md prints just the figures that stand behind its println lines. */
public final class ReadmeTest {
    private static final Pattern PRINTS = Pattern.compile("System\\.out\\.println\\(.*\\);\\s*// (-?[0-9.]+): .*");

    private static final Checks checks = new Checks();

    public static void main(String[] args) throws Exception {
        List<String> example = exampleOf(Path.of("README.md"));
        List<String> due = figuresOf(example);
        List<String> got = printedBy(example);
        checks.same("println lines with a figure", due.size(), countPrints(example));
        checks.same("printed lines", got.size(), due.size());
        for (int i = 0; i < due.size() && i < got.size(); i++) {
            checks.holds("README's figure " + due.get(i) + " (printed: " + got.get(i) + ")", due.get(i).equals(got.get(i)));
        }
        checks.end();
    }

    private static List<String> exampleOf(Path readme) throws IOException {
        List<String> lines = Files.readAllLines(readme);
        int start = lines.indexOf("```java");
        if (start < 0) {
            throw new IllegalStateException("README.md has no example");
        }
        List<String> behind = lines.subList(start + 1, lines.size());
        return behind.subList(0, behind.indexOf("```"));
    }

    private static List<String> figuresOf(List<String> example) {
        List<String> figures = new ArrayList<>();
        for (String line : example) {
            Matcher print = PRINTS.matcher(line.strip());
            if (print.matches()) {
                figures.add(print.group(1));
            }
        }
        return figures;
    }

    private static long countPrints(List<String> example) {
        return example.stream().filter(line -> line.contains("println")).count();
    }

    private static List<String> printedBy(List<String> example) throws Exception {
        Path folder = Files.createDirectories(Path.of("build", "readme"));
        Path source = Files.write(folder.resolve("Example.java"), example);
        String classes = System.getProperty("java.class.path");
        int failed = ToolProvider.getSystemJavaCompiler().run(null, null, null,
                "-cp", classes, "-d", folder.toString(), source.toString());
        checks.same("compiling the example", failed, 0);
        if (failed != 0) {
            return List.of();
        }
        PrintStream console = System.out;
        ByteArrayOutputStream printed = new ByteArrayOutputStream();
        try (URLClassLoader loader = new URLClassLoader(new URL[] {folder.toUri().toURL()})) {
            System.setOut(new PrintStream(printed, true));
            loader.loadClass("Example").getMethod("main", String[].class).invoke(null, (Object) new String[0]);
        } finally {
            System.setOut(console);
        }
        return printed.toString().lines().toList();
    }
}
