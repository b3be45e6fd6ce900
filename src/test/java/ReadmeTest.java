import java.io.ByteArrayOutputStream;
import java.io.IOException;
import java.io.PrintStream;
import java.net.URL;
import java.net.URLClassLoader;
import java.nio.file.Files;
import java.nio.file.Path;
import java.util.ArrayList;
import java.util.List;
import java.util.regex.Matcher;
import java.util.regex.Pattern;
import javax.tools.ToolProvider;

/** README.md: its example compiles and prints what its comments say, and its programs can be read. */
public final class ReadmeTest {
    private static final Pattern EXAMPLE = Pattern.compile("```java\n(.*?)```", Pattern.DOTALL);
    private static final Pattern PRINTED = Pattern.compile("println\\(.*\\); *// (-?[0-9]+)\\b");
    private static final Pattern PROGRAM = Pattern.compile("^\\| `([^`]*)` \\|", Pattern.MULTILINE);

    public static void main(String[] args) throws Exception {
        String readme = Files.readString(Path.of("README.md"));
        Matcher example = EXAMPLE.matcher(readme);
        if (example.find()) {
            dueOutput(example.group(1));
        } else {
            Checks.fault("README.md has no example");
        }
        duePrograms(readme.substring(readme.indexOf("### The programs")));
        Checks.end();
    }

    private static void dueOutput(String source) throws Exception {
        List<String> due = new ArrayList<>();
        Matcher line = PRINTED.matcher(source);
        while (line.find()) {
            due.add(line.group(1));
        }
        List<String> printed = outputOf(source).lines().toList();
        if (due.size() < 9 || !printed.equals(due)) {
            Checks.fault("the example of README.md prints " + printed + ", its comments say " + due);
        }
    }

    /** What the class Example of this source prints. */
    private static String outputOf(String source) throws Exception {
        Path directory = Files.createTempDirectory("readme");
        try {
            Path file = Files.writeString(directory.resolve("Example.java"), source);
            String classes = System.getProperty("java.class.path");
            int code = ToolProvider.getSystemJavaCompiler().run(null, null, null, "-cp", classes, "-d",
                    directory.toString(), file.toString());
            return code == 0 ? outputOfMain(directory) : "nothing: it doesn't compile";
        } finally {
            remove(directory);
        }
    }

    private static String outputOfMain(Path directory) throws Exception {
        PrintStream old = System.out;
        ByteArrayOutputStream bytes = new ByteArrayOutputStream();
        System.setOut(new PrintStream(bytes, true));
        try (URLClassLoader loader = new URLClassLoader(new URL[] {directory.toUri().toURL()})) {
            loader.loadClass("Example").getMethod("main", String[].class).invoke(null, (Object) new String[0]);
        } finally {
            System.setOut(old);
        }
        return bytes.toString();
    }

    private static void remove(Path directory) throws IOException {
        try (var files = Files.list(directory)) {
            for (Path file : files.toList()) {
                Files.delete(file);
            }
        }
        Files.delete(directory);
    }

    private static void duePrograms(String section) {
        int programs = 0;
        Matcher row = PROGRAM.matcher(section);
        while (row.find()) {
            Checks x = new Checks();
            x.typeText(row.group(1));
            x.answer("load");
            x.due(-1, "count", 0);
            x.due(1, "count", 7);
            programs++;
        }
        if (programs != 11) {
            Checks.fault("README.md tells " + programs + " kinds of process, there are 11");
        }
    }
}
