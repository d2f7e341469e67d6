import java.io.IOException;
import java.nio.file.Files;
import java.nio.file.Path;
import java.util.LinkedHashMap;
import java.util.Map;

/** The document's words by section, to hold the quoting tests to what it says. */
final class Doc {
    static final String TOP = "What it is";
    static final String FACE = "The public face";

    private final Map<String, String> sections = new LinkedHashMap<>();

    private Doc() {
    }

    static Doc read(Path file) throws IOException {
        Doc doc = new Doc();
        String section = "";
        for (String line : Files.readAllLines(file)) {
            if (line.startsWith("## ")) {
                section = line.substring(3).replaceAll(":.*", "").trim();
            } else if (line.startsWith("==== ")) {
                section = "Terms " + line.charAt(5);
            } else if (line.startsWith("REFUSALS")) {
                section = "Refusals";
            }
            doc.sections.merge(section, line, (a, b) -> a + " " + b);
        }
        doc.sections.replaceAll((name, text) -> oneLine(text));
        return doc;
    }

    boolean says(String section, String words) {
        return sections.getOrDefault(section, "").contains(oneLine(words));
    }

    private static String oneLine(String text) {
        return text.replaceAll("\\s+", " ").trim();
    }
}
