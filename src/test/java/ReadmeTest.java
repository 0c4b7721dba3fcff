import java.io.IOException;
import java.net.URL;
import java.net.URLClassLoader;
import java.nio.file.Files;
import java.nio.file.Path;
import java.util.Comparator;
import java.util.List;
import java.util.regex.Matcher;
import java.util.regex.Pattern;
import java.util.stream.Stream;
import javax.tools.ToolProvider;

/** The examples of README.md, compiled and run as they stand: each call answers the number behind it. */
public final class ReadmeTest {
    private static final Pattern EXAMPLE = Pattern.compile("(?s)```java\n(.*?)```");
    private static final Pattern CALL = Pattern.compile("(cache\\.\\w+\\(.*\\));( *// (-?\\d+)(\\D.*)?)?");
    private static final int LEAST_CALLS = 40;

    private static int calls;
    private static int wrong;

    public static void main(String[] args) throws Exception {
        String source = sourceOf(Files.readString(Path.of("README.md")));
        Path folder = Files.createTempDirectory("readme");
        try {
            wrong = runIn(folder, source);
        } finally {
            remove(folder);
        }
        if (calls < LEAST_CALLS) {
            wrong++;
            System.out.println("only " + calls + " calls were found in README.md");
        }
        System.out.println(wrong == 0 ? "all answers are as README.md says" : wrong + " answers are not");
        if (wrong != 0) {
            System.exit(1);
        }
    }

    private static String sourceOf(String readme) {
        StringBuilder source = new StringBuilder("public final class Examples {\nprivate static int wrong;\n"
                + "private static void due(String call, long got, long want) {\n"
                + "if (got != want) { wrong++; System.out.println(call + \" answered \" + got + \", not \" + want); }\n}\n"
                + "public static int run() {\n");
        Matcher example = EXAMPLE.matcher(readme);
        while (example.find()) {
            source.append("{\n");
            for (String line : example.group(1).split("\n")) {
                source.append(checked(line)).append('\n');
            }
            source.append("}\n");
        }
        return source.append("return wrong;\n}\n}\n").toString();
    }

    /** A line that only calls must say what the call answers; the other lines stand as they are. */
    private static String checked(String line) {
        Matcher call = CALL.matcher(line);
        if (!call.matches()) {
            return line;
        }
        calls++;
        String want = call.group(3) == null ? "nothing_told_of_the_answer" : call.group(3) + "L";
        return "due(\"" + call.group(1) + "\", " + call.group(1) + ", " + want + ");";
    }

    private static int runIn(Path folder, String source) throws Exception {
        Path file = folder.resolve("Examples.java");
        Files.writeString(file, source);
        String here = Path.of(LookAsideCache.class.getProtectionDomain().getCodeSource().getLocation().toURI()).toString();
        String[] how = {"-cp", here, "-d", folder.toString(), file.toString()};
        if (ToolProvider.getSystemJavaCompiler().run(null, null, null, how) != 0) {
            return 1;
        }
        try (URLClassLoader loader = new URLClassLoader(new URL[] {folder.toUri().toURL()})) {
            return (int) loader.loadClass("Examples").getMethod("run").invoke(null);
        }
    }

    private static void remove(Path folder) throws IOException {
        List<Path> all;
        try (Stream<Path> found = Files.walk(folder)) {
            all = found.sorted(Comparator.reverseOrder()).toList();
        }
        for (Path path : all) {
            Files.delete(path);
        }
    }
}
