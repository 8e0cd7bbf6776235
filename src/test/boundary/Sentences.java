import java.io.IOException;
import java.nio.file.Files;
import java.nio.file.Path;
import java.util.ArrayList;
import java.util.List;
import java.util.Map;
import java.util.TreeMap;

/**
 * The document's sentences, and who has claimed them: a test that names words that do not stand in
 * the document is wrong, and so is a word of a promise that no test has named.
 */
final class Sentences {
    private static final Map<String, String> SECTIONS = new TreeMap<>();
    private static final Map<String, List<String>> CLAIMED = new TreeMap<>();
    private static String here = "";
    private static int wrong = 0;
    private static int looked = 0;
    private static int tests = 0;

    private Sentences() {
    }

    static void open() throws IOException {
        Path root = Path.of(System.getProperty("project.root", ".")).toAbsolutePath().normalize();
        String text = Files.readString(root.resolveSibling("shared").resolve("DOC.md"));
        for (String part : text.split("(?m)^## ")) {
            int line = part.indexOf('\n');
            if (line > 0) {
                String title = part.substring(0, line).replaceFirst(":.*", "").trim();
                SECTIONS.put(title, plain(part.substring(line)));
            }
        }
    }

    private static String plain(String text) {
        return text.replaceAll("```\\w*", " ").replaceAll("\\s+", " ");
    }

    static void promise(int number, String words) {
        sentence("Promise " + number, words);
    }

    static void term(String words) {
        sentence("Terms", words);
    }

    /** What follows tests these words of the document. */
    static void sentence(String section, String words) {
        here = section + ", \"" + words + "\"";
        tests++;
        CLAIMED.computeIfAbsent(section, s -> new ArrayList<>()).add(words);
        String text = SECTIONS.getOrDefault(section, "");
        due("stands in the document", text.contains(words), true);
    }

    static void due(String call, Object got, Object want) {
        looked++;
        if (!String.valueOf(got).equals(String.valueOf(want))) {
            wrong++;
            System.out.println(here + ": " + call + " answered " + got + ", due is " + want);
        }
    }

    /** Words of the section that no test has named. */
    static void claimedAll(String section, String dropped) {
        here = section;
        String rest = SECTIONS.getOrDefault(section, "no such section").replaceFirst(dropped, " ");
        List<String> claims = new ArrayList<>(CLAIMED.getOrDefault(section, List.of()));
        claims.sort((a, b) -> b.length() - a.length());
        for (String words : claims) {
            int from = rest.indexOf(words);
            if (from >= 0) {
                rest = rest.substring(0, from) + "|" + rest.substring(from + words.length());
            }
        }
        due("words that no test names", rest.replaceAll("[^A-Za-z0-9]+", " ").trim(), "");
    }

    static boolean close() {
        System.out.println("sentences: " + tests + " tests, " + looked + " answers looked at, " + wrong + " wrong");
        return wrong == 0;
    }
}
