import java.io.IOException;
import java.io.UncheckedIOException;
import java.nio.file.Files;
import java.nio.file.Path;
import java.util.ArrayList;
import java.util.Arrays;
import java.util.LinkedHashMap;
import java.util.List;
import java.util.Map;

/** The words of ../shared/DOC.md part by part, and which of them a test has named. */
final class Document {
    private static final Path FILE = Path.of("..", "shared", "DOC.md");
    /** The beginnings of the parts that promise something, but for those with a heading of their own. */
    private static final List<String> BEGINNINGS =
            List.of("An object", "MEMORY", "THE PROCESSOR", "VIDEO", "KEYS", "THE LANGUAGE");

    private final Map<String, String> parts = new LinkedHashMap<>();
    private final Map<String, boolean[]> named = new LinkedHashMap<>();

    Document() {
        String part = "";
        for (String line : lines()) {
            part = partFrom(line, part);
            boolean isText = !line.startsWith("#") && !line.startsWith("```");
            if (isText && !part.isEmpty()) {
                parts.merge(part, withoutSignature(line).trim(), (all, more) -> (all + " " + more).trim());
            }
        }
        for (Map.Entry<String, String> entry : parts.entrySet()) {
            named.put(entry.getKey(), new boolean[entry.getValue().length()]);
        }
    }

    private static List<String> lines() {
        try {
            return Files.readAllLines(FILE);
        } catch (IOException e) {
            throw new UncheckedIOException(e);
        }
    }

    private static String partFrom(String line, String before) {
        if (line.startsWith("## Promise ")) {
            return line.substring(3, line.indexOf(':'));
        }
        if (line.startsWith("#")) {
            return "";
        }
        for (String beginning : BEGINNINGS) {
            if (line.startsWith(beginning)) {
                return beginning;
            }
        }
        return before;
    }

    /** FaceTest looks after the signatures. */
    private static String withoutSignature(String line) {
        return line.startsWith("`") ? line.substring(line.indexOf("`:") + 2) : line;
    }

    /** Notes that a test names these words; false if they do not stand exactly once in the part. */
    boolean name(String part, String words) {
        String text = parts.getOrDefault(part, "");
        int from = text.indexOf(words);
        if (from < 0 || text.indexOf(words, from + 1) >= 0) {
            return false;
        }
        Arrays.fill(named.get(part), from, from + words.length(), true);
        return true;
    }

    /** What no test has named: the document has changed, or a sentence was forgotten. */
    List<String> unnamed() {
        List<String> left = new ArrayList<>();
        for (Map.Entry<String, String> entry : parts.entrySet()) {
            boolean[] seen = named.get(entry.getKey());
            StringBuilder words = new StringBuilder();
            for (int k = 0; k < seen.length; k++) {
                words.append(seen[k] ? '\n' : entry.getValue().charAt(k));
            }
            for (String piece : words.toString().split("\n+")) {
                if (piece.matches(".*[A-Za-z0-9].*")) {
                    left.add(entry.getKey() + ": \"" + piece.trim() + "\"");
                }
            }
        }
        return left;
    }
}
