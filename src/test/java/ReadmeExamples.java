import java.io.IOException;
import java.net.URL;
import java.net.URLClassLoader;
import java.nio.file.Files;
import java.nio.file.Path;
import java.util.ArrayList;
import java.util.List;
import javax.tools.ToolProvider;

/**
 * Compiles and runs the examples of README.md, so that they can't say what the class doesn't do: a line that ends with
 * "// is" and a value must have given its variable that value.
 */
public final class ReadmeExamples {
    private static final String BEGIN = "```java";
    private static final String END = "```";
    private static final String IS = "// is ";

    public static void main(String[] args) throws Exception {
        List<String> lines = Files.readAllLines(Path.of("README.md"));
        List<String> source = new ArrayList<>(List.of("public final class Example {", "  public static int run() {",
                "    int wrong = 0;"));
        int checks = addExamples(lines, source);
        source.addAll(List.of("    return wrong;", "  }", "}"));
        if (checks == 0) {
            System.out.println("README.md has no example with a value to compare");
            System.exit(1);
        }
        int wrong = compileAndRun(source);
        System.out.println(checks + " values of README.md compared, " + wrong + " are not as told");
        if (wrong != 0) {
            System.exit(1);
        }
    }

    /** All examples go into one method, since a later one may go on with what an earlier one made. */
    private static int addExamples(List<String> lines, List<String> source) {
        boolean inside = false;
        int checks = 0;
        for (String line : lines) {
            if (line.equals(BEGIN) || line.equals(END)) {
                inside = line.equals(BEGIN);
            } else if (inside) {
                source.add(line);
                if (line.contains(IS)) {
                    source.add(check(line));
                    checks++;
                }
            }
        }
        return checks;
    }

    private static String check(String line) {
        String name = line.substring(0, line.indexOf(" =")).replaceAll(".* ", "");
        String want = line.substring(line.indexOf(IS) + IS.length()).replaceAll("[^-0-9a-z].*", "");
        // Every number is written as a long, since an entry has more digits than an int takes.
        String value = want.matches("-?[0-9]+") ? want + "L" : want;
        return "    if (" + name + " != " + value + ") { wrong++; System.out.println(\"README.md: " + name
                + " is \" + " + name + " + \", told is " + want + "\"); }";
    }

    private static int compileAndRun(List<String> source) throws IOException, ReflectiveOperationException {
        Path directory = Files.createTempDirectory("readme");
        Path file = directory.resolve("Example.java");
        Path compiled = directory.resolve("Example.class");
        try {
            Files.write(file, source);
            int failed = ToolProvider.getSystemJavaCompiler().run(null, null, null, "-cp",
                    System.getProperty("java.class.path"), "-d", directory.toString(), file.toString());
            if (failed != 0) {
                return 1;
            }
            try (URLClassLoader loader = new URLClassLoader(new URL[] {directory.toUri().toURL()})) {
                return (int) loader.loadClass("Example").getMethod("run").invoke(null);
            }
        } finally {
            Files.deleteIfExists(compiled);
            Files.deleteIfExists(file);
            Files.deleteIfExists(directory);
        }
    }
}
