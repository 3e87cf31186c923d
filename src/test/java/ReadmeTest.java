import java.io.File;
import java.lang.reflect.Method;
import java.lang.reflect.Modifier;
import java.nio.charset.StandardCharsets;
import java.nio.file.Files;
import java.nio.file.Path;
import java.util.Set;
import java.util.TreeSet;
import java.util.regex.Matcher;
import java.util.regex.Pattern;
import java.util.stream.Collectors;
import java.util.stream.Stream;

/** What README.md says of the class: its example, its calls, its tests. Runs in the project's root. */
public final class ReadmeTest {
    private static final Check CHECK = new Check("ReadmeTest");
    private static final String EXAMPLE = "Bicycle";

    public static void main(String[] args) throws Exception {
        String readme = Files.readString(Path.of("README.md"));
        String printed = printedBy(block(readme, "java"));
        CHECK.due(block(readme, "text"), "the example", () -> printed);
        CHECK.due(calls(), "the calls that README.md explains", () -> explainedCalls(readme));
        Set<String> tests = tests();
        CHECK.due(tests, "the tests that README.md explains",
                () -> firstCells(readme, "(\\w+Test)").collect(Collectors.toCollection(TreeSet::new)));
        CHECK.finish();
    }

    private static String block(String readme, String language) {
        Matcher matcher = Pattern.compile("```" + language + "\n(.*?)```", Pattern.DOTALL).matcher(readme);
        return matcher.find() ? matcher.group(1) : "";
    }

    private static String printedBy(String source) throws Exception {
        Path folder = Files.createTempDirectory("readme");
        Path file = folder.resolve(EXAMPLE + ".java");
        String classes = System.getProperty("java.class.path");
        try {
            Files.writeString(file, source);
            return outputOf("javac", "-cp", classes, "-d", folder.toString(), file.toString())
                    + outputOf("java", "-cp", classes + File.pathSeparator + folder, EXAMPLE);
        } finally {
            Files.deleteIfExists(file);
            Files.deleteIfExists(folder.resolve(EXAMPLE + ".class"));
            Files.deleteIfExists(folder);
        }
    }

    private static String outputOf(String... command) throws Exception {
        Process process = new ProcessBuilder(command).redirectError(ProcessBuilder.Redirect.INHERIT).start();
        String output = new String(process.getInputStream().readAllBytes(), StandardCharsets.UTF_8);
        process.waitFor();
        return output.replace(System.lineSeparator(), "\n");
    }

    /** Each call of the face as its name and the number of its parameters. */
    private static Set<String> calls() {
        Set<String> calls = new TreeSet<>();
        for (Method method : BillOfMaterials.class.getDeclaredMethods()) {
            if (Modifier.isPublic(method.getModifiers())) {
                calls.add(method.getName() + " " + method.getParameterCount());
            }
        }
        return calls;
    }

    private static Set<String> explainedCalls(String readme) {
        return firstCells(readme, "(\\w+\\([^)]*\\))").map(ReadmeTest::nameAndCount)
                .collect(Collectors.toCollection(TreeSet::new));
    }

    private static String nameAndCount(String call) {
        String parameters = call.substring(call.indexOf('(') + 1, call.length() - 1);
        int count = parameters.isEmpty() ? 0 : parameters.split(",").length;
        return call.substring(0, call.indexOf('(')) + " " + count;
    }

    private static Set<String> tests() throws Exception {
        try (Stream<Path> files = Files.list(Path.of("src", "test", "java"))) {
            return files.map(file -> file.getFileName().toString()).filter(name -> name.endsWith("Test.java"))
                    .map(name -> name.replace(".java", "")).collect(Collectors.toCollection(TreeSet::new));
        }
    }

    /** The first cells of the rows of all tables, if they are of this form. */
    private static Stream<String> firstCells(String readme, String form) {
        return Pattern.compile("^\\| `" + form + "` \\|", Pattern.MULTILINE).matcher(readme).results()
                .map(result -> result.group(1));
    }
}
