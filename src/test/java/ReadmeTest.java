import java.io.IOException;
import java.net.URL;
import java.net.URLClassLoader;
import java.nio.file.Files;
import java.nio.file.Path;
import java.util.Comparator;
import java.util.List;
import java.util.regex.Matcher;
import java.util.regex.Pattern;
import java.util.stream.Stream;
import javax.tools.ToolProvider;

/**
 * README.md says how to use the class: all its examples together make one program, and each call
 * answers what the remark behind it begins with.
 */
public final class ReadmeTest {
    private static final Pattern BLOCK = Pattern.compile("(?s)```java\n(.*?)```");
    private static final Pattern ASKED = Pattern.compile(
        "(?:\\w+ (\\w+) = )?(x\\.[^;]+); +// (true|false|-?\\d+|throws \\w+)\\b.*");
    private static final String[] FACE = {"unit", "read", "member", "support", "hinge", "solve", "loose", "row", "at",
        "area", "turned", "sums", "settled", "move", "count"};

    private static int wrong = 0;
    private static int looked = 0;

    public static void main(String[] args) throws Exception {
        Path root = Path.of(System.getProperty("project.root", "."));
        String readme = Files.readString(root.resolve("README.md"));
        for (String name : FACE) {
            due("an example of " + name, readme.contains("x." + name + "("), "true");
        }
        due("how to run the tests", readme.contains("## How to run the tests") && readme.contains(".ci/run"), "true");
        run(program(readme));
        System.out.println("readme: " + looked + " answers looked at, " + wrong + " wrong");
        if (wrong > 0 || looked < 40) {
            System.exit(1);
        }
    }

    /** The examples' program calls it too. */
    public static void due(String call, Object got, String want) {
        looked++;
        if (!want.equals(String.valueOf(got))) {
            wrong++;
            System.out.println("README.md: " + call + " answered " + got + ", due is " + want);
        }
    }

    private static String program(String readme) {
        StringBuilder text = new StringBuilder("public final class Examples {\n    public static void run() {\n");
        Matcher block = BLOCK.matcher(readme);
        while (block.find()) {
            block.group(1).lines().forEach(line -> text.append(looking(line)).append('\n'));
        }
        return text.append("    }\n}\n").toString();
    }

    private static String looking(String line) {
        Matcher asked = ASKED.matcher(line);
        if (!asked.matches()) {
            return line;
        }
        String call = asked.group(2);
        String want = asked.group(3);
        if (want.startsWith("throws")) {
            return "try { ReadmeTest.due(\"" + call + "\", " + call + ", \"" + want + "\"); } catch (RuntimeException e) { "
                + "ReadmeTest.due(\"" + call + "\", \"throws \" + e.getClass().getSimpleName(), \"" + want + "\"); }";
        }
        String kept = asked.group(1) == null ? "" : "int " + asked.group(1) + " = " + call + "; ";
        String got = asked.group(1) == null ? call : asked.group(1);
        return kept + "ReadmeTest.due(\"" + call + "\", " + got + ", \"" + want + "\");";
    }

    private static void run(String source) throws Exception {
        Path place = Files.createTempDirectory("readme");
        try {
            Path file = Files.writeString(place.resolve("Examples.java"), source);
            int made = ToolProvider.getSystemJavaCompiler().run(null, null, null, "-cp", System.getProperty("java.class.path"),
                "-d", place.toString(), file.toString());
            due("the compiler", made, "0");
            if (made == 0) {
                URL[] where = {place.toUri().toURL()};
                try (URLClassLoader loader = new URLClassLoader(where, ReadmeTest.class.getClassLoader())) {
                    loader.loadClass("Examples").getMethod("run").invoke(null);
                }
            }
        } finally {
            clear(place);
        }
    }

    private static void clear(Path place) throws IOException {
        List<Path> all;
        try (Stream<Path> found = Files.walk(place)) {
            all = found.sorted(Comparator.reverseOrder()).toList();
        }
        for (Path one : all) {
            Files.delete(one);
        }
    }
}
