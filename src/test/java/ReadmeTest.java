import java.io.ByteArrayOutputStream;
import java.io.PrintStream;
import java.lang.reflect.Method;
import java.lang.reflect.Modifier;
import java.net.URL;
import java.net.URLClassLoader;
import java.nio.file.Files;
import java.nio.file.Path;
import java.util.ArrayList;
import java.util.List;
import java.util.TreeSet;
import java.util.regex.Matcher;
import java.util.regex.Pattern;
import java.util.stream.Stream;
import javax.tools.ToolProvider;

/** README.md: the calls in their order, the example and what it prints, the rules, and how the tests are run. */
public final class ReadmeTest {
    private static final Kit KIT = new Kit("ReadmeTest");
    private static final List<String> CALLS = List.of("feed(a, b, c, d, e)", "end(n)", "fuel(n)", "run()", "fault(what)",
            "steps()", "count(what)", "size()", "letter(k)", "tell(k)");
    private static final List<String> RULES = List.of("taut", "same", "value", "first", "second", "pair", "yes", "no",
            "def", "thm", "weak", "cut", "inst", "swap", "put", "induct");

    public static void main(String[] args) throws Exception {
        Path file = Path.of("README.md");
        KIT.due("README.md stands at the project's root", Files.isRegularFile(file), true);
        String readme = Files.isRegularFile(file) ? Files.readString(file) : "";
        calls(readme);
        example(readme);
        rules(readme);
        tests(readme);
        KIT.end();
    }

    private static void calls(String readme) {
        List<String> names = new ArrayList<>();
        for (List<String> row : rows(readme, "Call", 3)) {
            names.add(row.get(0).replace("`", ""));
            KIT.due(row.get(0) + " has an answer", row.get(2).isEmpty(), false);
        }
        KIT.due("the calls", names, CALLS);
        TreeSet<String> face = new TreeSet<>();
        for (Method method : ClauseKernel.class.getDeclaredMethods()) {
            if (Modifier.isPublic(method.getModifiers())) {
                face.add(method.getName() + " of " + method.getParameterCount());
            }
        }
        TreeSet<String> told = new TreeSet<>();
        for (String call : names) {
            String inside = call.replaceAll("^[^(]*\\(|\\)$", "");
            told.add(call.replaceAll("\\(.*", "") + " of " + (inside.isEmpty() ? 0 : inside.split(",").length));
        }
        KIT.due("the calls' parameters", told, face);
    }

    private static void example(String readme) throws Exception {
        String program = block(readme, "java");
        for (String call : CALLS) {
            String name = call.substring(0, call.indexOf('(') + 1);
            KIT.due("the example calls " + name, program.contains("kernel." + name), true);
        }
        Path directory = Files.createTempDirectory("readme");
        try {
            Path source = directory.resolve("Example.java");
            Files.writeString(source, program);
            int compiled = ToolProvider.getSystemJavaCompiler().run(null, null, null, "-cp",
                    System.getProperty("java.class.path"), "-d", directory.toString(), source.toString());
            KIT.due("javac of the example", compiled, 0);
            KIT.due("what the example prints", compiled == 0 ? printed(directory) : "", block(readme, "text"));
        } finally {
            delete(directory);
        }
    }

    private static String printed(Path directory) throws Exception {
        PrintStream before = System.out;
        ByteArrayOutputStream bytes = new ByteArrayOutputStream();
        try (URLClassLoader loader = new URLClassLoader(new URL[] {directory.toUri().toURL()})) {
            Method main = loader.loadClass("Example").getMethod("main", String[].class);
            System.setOut(new PrintStream(bytes, true));
            main.invoke(null, (Object) new String[0]);
        } finally {
            System.setOut(before);
        }
        return bytes.toString().replace(System.lineSeparator(), "\n");
    }

    private static void delete(Path directory) throws Exception {
        try (Stream<Path> files = Files.list(directory)) {
            for (Path file : files.toList()) {
                Files.delete(file);
            }
        }
        Files.delete(directory);
    }

    private static void rules(String readme) {
        ClauseKernel kernel = KIT.told(block(readme, "lisp").split("\n"));
        List<String> names = new ArrayList<>();
        for (List<String> row : rows(readme, "Proof", 2)) {
            String proof = row.get(0).replace("`", "");
            names.add(proof.replaceAll("^\\(| .*", ""));
            KIT.clause(kernel, proof, row.get(1).replace("`", ""));
        }
        KIT.due("the rules", names, RULES);
    }

    private static void tests(String readme) throws Exception {
        KIT.due("the command that runs all tests", block(readme, "sh"), ".ci/run\n");
        KIT.due(".ci/run can be run", Files.isExecutable(Path.of(".ci/run")), true);
        Matcher named = Pattern.compile("`(\\w+Test)`").matcher(readme);
        while (named.find()) {
            String name = named.group(1);
            KIT.due(name + " is there", Files.isRegularFile(Path.of("src/test/java", name + ".java")), true);
        }
    }

    /** The first block of a kind that stands between lines of three marks. */
    private static String block(String readme, String kind) {
        Matcher matcher = Pattern.compile("(?s)```" + kind + "\n(.*?)```").matcher(readme);
        return matcher.find() ? matcher.group(1) : "";
    }

    /** The rows of the table whose first column has a name, each with as many columns as asked. */
    private static List<List<String>> rows(String readme, String first, int columns) {
        List<List<String>> rows = new ArrayList<>();
        boolean within = false;
        for (String line : readme.split("\n")) {
            if (!line.startsWith("|")) {
                within = false;
            } else if (line.startsWith("| " + first + " |")) {
                within = true;
            } else if (within && !line.startsWith("|---")) {
                rows.add(cellsOf(line, columns));
            }
        }
        return rows;
    }

    private static List<String> cellsOf(String line, int columns) {
        List<String> cells = new ArrayList<>();
        for (String cell : line.substring(1).split("\\|", -1)) {
            cells.add(cell.trim());
        }
        KIT.due("columns of " + line, cells.size(), columns + 1);
        while (cells.size() < columns) {
            cells.add("");
        }
        return cells;
    }
}
