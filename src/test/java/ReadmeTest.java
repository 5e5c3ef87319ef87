import java.io.ByteArrayOutputStream;
import java.io.IOException;
import java.io.PrintStream;
import java.net.URL;
import java.net.URLClassLoader;
import java.nio.file.Files;
import java.nio.file.Path;
import java.util.ArrayList;
import java.util.List;
import java.util.TreeSet;
import java.util.stream.Stream;
import javax.tools.ToolProvider;

/** README.md: its program prints what it says there, it tells of every call, and of every test. */
public final class ReadmeTest {
    public static void main(String[] args) throws Exception {
        List<String> readme = Files.readAllLines(Path.of("README.md"));
        Check.due("what the program prints", printed(block(readme, "java")), block(readme, "text"));
        tellsEachCall(readme);
        tellsEachTest(String.join("\n", readme));
        Check.end();
    }

    private static String block(List<String> readme, String language) {
        StringBuilder result = new StringBuilder();
        int from = readme.indexOf("```" + language);
        Check.due("a block in " + language, from >= 0, true);
        for (int i = from + 1; from >= 0 && i < readme.size() && !readme.get(i).equals("```"); i++) {
            result.append(readme.get(i)).append('\n');
        }
        return result.toString();
    }

    private static String printed(String program) throws Exception {
        Path directory = Files.createTempDirectory("readme");
        try {
            Path source = Files.writeString(directory.resolve("Demo.java"), program);
            int failed = ToolProvider.getSystemJavaCompiler().run(null, null, null, "-d", directory.toString(),
                    "src/main/java/ColumnTable.java", source.toString());
            return failed == 0 ? run(directory) : "not compiled";
        } finally {
            remove(directory);
        }
    }

    private static String run(Path directory) throws Exception {
        ByteArrayOutputStream bytes = new ByteArrayOutputStream();
        PrintStream console = System.out;
        try (URLClassLoader loader = new URLClassLoader(new URL[] {directory.toUri().toURL()}, null)) {
            System.setOut(new PrintStream(bytes, true));
            loader.loadClass("Demo").getMethod("main", String[].class).invoke(null, (Object) new String[0]);
        } finally {
            System.setOut(console);
        }
        return bytes.toString().replace("\r\n", "\n");
    }

    private static void remove(Path directory) throws IOException {
        List<Path> found = new ArrayList<>();
        try (Stream<Path> inside = Files.walk(directory)) {
            inside.forEach(found::add);
        }
        for (int i = found.size() - 1; i >= 0; i--) {
            Files.delete(found.get(i));
        }
    }

    private static void tellsEachCall(List<String> readme) {
        TreeSet<String> told = new TreeSet<>();
        for (String line : readme) {
            if (line.startsWith("| ")) {
                String[] cells = line.split("\\|");
                for (String call : cells[cells.length - 1].replaceAll("[` ]", "").split(",")) {
                    told.add(call);
                }
            }
        }
        told.removeAll(List.of("Calls", "---"));
        TreeSet<String> face = new TreeSet<>();
        Stream.of(ColumnTable.class.getDeclaredMethods())
                .filter(method -> java.lang.reflect.Modifier.isPublic(method.getModifiers()))
                .forEach(method -> face.add(method.getName()));
        Check.due("the calls in the table", told, face);
    }

    private static void tellsEachTest(String readme) throws Exception {
        Check.due("how to run the tests", readme.contains("\n.ci/run\n"), true);
        try (Stream<Path> tests = Files.list(Path.of("src/test/java"))) {
            tests.map(file -> file.getFileName().toString().replace(".java", "")).forEach(name ->
                    Check.due("README.md tells of " + name, readme.contains("`" + name)
                            || name.matches("Section[2-6]Test"), true));
        }
    }
}
