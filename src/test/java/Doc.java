import java.io.IOException;
import java.nio.file.Files;
import java.nio.file.Path;
import java.util.Map;
import java.util.TreeMap;

/** The document by section: 0 the terms, 1 .. 30 the promises, as tests quote them, and the face. */
final class Doc {
    static final int TERMS = 0;
    static final int PROMISES = 30;
    static final int FACE = 31;
    private static final Path FILE = Path.of("../shared/DOC.md");
    // It stands ahead of the terms, behind an opening that promises nothing.
    private static final String BOUND_ON_CALLS = "An object is used for";

    private final Map<Integer, String> sections = new TreeMap<>();

    Doc() {
        int section = -1;
        for (String line : lines()) {
            if (line.startsWith("#")) {
                section = sectionOf(line);
            } else if (line.startsWith(BOUND_ON_CALLS)) {
                add(TERMS, line);
            } else if (section >= 0 && !line.startsWith("```")) {
                add(section, withoutSignature(line));
            }
        }
    }

    private void add(int section, String line) {
        sections.merge(section, line + "\n", String::concat);
    }

    private static Iterable<String> lines() {
        try {
            return Files.readAllLines(FILE);
        } catch (IOException e) {
            throw new IllegalStateException("the tests quote " + FILE + ", which can't be read", e);
        }
    }

    private static int sectionOf(String heading) {
        if (heading.startsWith("## Promise ")) {
            return Integer.parseInt(heading.replaceAll("\\D*(\\d+).*", "$1"));
        }
        return switch (heading) {
            case "## Terms" -> TERMS;
            case "## The public face" -> FACE;
            default -> -1;
        };
    }

    private static String withoutSignature(String line) {
        return line.replaceFirst("^`[^`]*\\([^`]*\\)`: ", "");
    }

    String section(int number) {
        return sections.getOrDefault(number, "");
    }
}
