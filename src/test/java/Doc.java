import java.io.IOException;
import java.nio.file.Files;
import java.nio.file.Path;
import java.util.ArrayList;
import java.util.List;
import java.util.Map;
import java.util.TreeMap;

/** The sentences of the document, by the numbers of their promises; TERMS stands for its Terms. */
final class Doc {
    static final int TERMS = 0;
    private static final Path FILE = Path.of("..", "shared", "DOC.md");

    private final Map<Integer, List<String>> sentences = new TreeMap<>();

    Doc() {
        int section = -1;
        for (String line : lines()) {
            if (line.startsWith("## ")) {
                section = sectionOf(line);
            } else if (section >= 0 && !line.isBlank()) {
                sentences.computeIfAbsent(section, made -> new ArrayList<>()).addAll(split(section, line));
            }
        }
    }

    private static List<String> lines() {
        try {
            return Files.readAllLines(FILE);
        } catch (IOException unreadable) {
            throw new IllegalStateException("no document at " + FILE.toAbsolutePath(), unreadable);
        }
    }

    /** -1 for what is neither the Terms nor a promise. */
    private static int sectionOf(String title) {
        if (title.equals("## Terms")) {
            return TERMS;
        }
        String start = "## Promise ";
        return title.startsWith(start)
                ? Integer.parseInt(title.substring(start.length(), title.indexOf(':')))
                : -1;
    }

    /** A line of a promise is one sentence; a line of the Terms is several, or only a title. */
    private static List<String> split(int section, String line) {
        if (section != TERMS) {
            return List.of(line);
        }
        List<String> found = new ArrayList<>();
        for (String each : line.split("(?<=\\.)\\s+")) {
            if (each.endsWith(".") && !each.startsWith("Ahead of the calls")) {
                found.add(each);
            }
        }
        return found;
    }

    boolean tells(int section, String fragment) {
        return sentences.getOrDefault(section, List.of()).stream().anyMatch(each -> each.contains(fragment));
    }

    /** The sentences of which none of the fragments is a part. */
    List<String> without(int section, List<String> fragments) {
        return sentences.getOrDefault(section, List.of()).stream()
                .filter(each -> fragments.stream().noneMatch(each::contains)).toList();
    }

    Iterable<Integer> sections() {
        return sentences.keySet();
    }
}
