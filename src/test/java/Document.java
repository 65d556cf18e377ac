import java.io.IOException;
import java.nio.file.Files;
import java.nio.file.Path;
import java.util.ArrayList;
import java.util.LinkedHashMap;
import java.util.List;
import java.util.Map;

/** The sections of ../shared/DOC.md, so that a test names a sentence in the document's own words. */
final class Document {
    private static final Path PLACE = Path.of("../shared/DOC.md");
    private static final Map<String, List<String>> SECTIONS = sections();

    private Document() {
    }

    /** The lines of each section by its heading; of a promise's heading only what is ahead of the colon. */
    private static Map<String, List<String>> sections() {
        Map<String, List<String>> all = new LinkedHashMap<>();
        List<String> lines = new ArrayList<>();
        for (String line : lines()) {
            if (line.startsWith("#")) {
                lines = new ArrayList<>();
                all.put(line.replaceAll("^#+ ", "").replaceAll("^(Promise \\d+):.*", "$1"), lines);
            } else {
                lines.add(line);
            }
        }
        return all;
    }

    // Where the document isn't at hand the answers can be tried all the same.
    private static List<String> lines() {
        try {
            return Files.exists(PLACE) ? Files.readAllLines(PLACE) : List.of();
        } catch (IOException unreadable) {
            return List.of();
        }
    }

    static boolean has(String section, String words) {
        return SECTIONS.isEmpty() || String.join("\n", SECTIONS.getOrDefault(section, List.of())).contains(words);
    }

    /** The calls of the public face, as "name(argument, argument)". */
    static List<String> calls() {
        List<String> all = new ArrayList<>();
        for (String line : SECTIONS.getOrDefault("The public face", List.of())) {
            if (line.matches(" *public int \\w+\\(.*\\);")) {
                all.add(line.replaceAll(" *public int |;$", "").replaceAll("\\bint ", ""));
            }
        }
        return all;
    }

    /** What each promise tells of its arguments and of its answers, part by part, as "Promise n, words". */
    static List<String> promised() {
        List<String> all = new ArrayList<>();
        SECTIONS.forEach((section, lines) -> {
            for (String line : lines) {
                if (section.startsWith("Promise ") && line.startsWith("- `")) {
                    all.add(section + ", " + line.substring(2));
                }
                if (section.startsWith("Promise ") && line.startsWith("Returns ")) {
                    for (String part : line.replaceAll("\\.$", "").split("; ")) {
                        all.add(section + ", " + part);
                    }
                }
            }
        });
        return all;
    }
}
