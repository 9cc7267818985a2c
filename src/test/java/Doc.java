import java.io.IOException;
import java.nio.file.Files;
import java.nio.file.Path;
import java.util.ArrayList;
import java.util.LinkedHashMap;
import java.util.List;
import java.util.Map;

/** The document by its headings, and which of its words have been quoted. */
final class Doc {
    private static final class Section {
        private final StringBuilder text = new StringBuilder();
        private final List<int[]> quoted = new ArrayList<>();
    }

    private final Map<String, Section> sections = new LinkedHashMap<>();

    private Doc() {
    }

    static Doc read(Path file) throws IOException {
        Doc doc = new Doc();
        String heading = "";
        for (String line : Files.readAllLines(file)) {
            if (line.startsWith("#")) {
                heading = line.replaceFirst("^#+ *", "").replaceFirst("^(Promise \\d+):.*", "$1");
            } else if (!line.startsWith("```") && !line.startsWith("Ahead of the calls")) {
                doc.add(heading, withoutSignature(line));
            }
        }
        return doc;
    }

    private static String withoutSignature(String line) {
        return line.replaceFirst("^`[^`]*\\)`: ", "");
    }

    private void add(String heading, String line) {
        String words = line.trim().replaceAll("\\s+", " ");
        StringBuilder text = sections.computeIfAbsent(heading, h -> new Section()).text;
        if (!words.isEmpty()) {
            text.append(text.length() == 0 ? "" : " ").append(words);
        }
    }

    /** Whether the words stand under a heading, and at one place alone. */
    boolean quote(String heading, String words) {
        Section section = sections.get(heading);
        int at = section == null ? -1 : section.text.indexOf(words);
        if (at < 0 || at != section.text.lastIndexOf(words)) {
            return false;
        }
        section.quoted.add(new int[] {at, at + words.length()});
        return true;
    }

    /** The letters and digits under a heading that no quotation holds, with what stands between them. */
    List<String> unquoted(String heading) {
        Section section = sections.get(heading);
        if (section == null) {
            return List.of("(there is no such heading)");
        }
        StringBuilder left = new StringBuilder(section.text);
        for (int[] range : section.quoted) {
            for (int i = range[0]; i < range[1]; i++) {
                left.setCharAt(i, '\n');
            }
        }
        List<String> parts = new ArrayList<>();
        for (String part : left.toString().split("\n+")) {
            if (part.matches(".*[A-Za-z0-9].*")) {
                parts.add(part.trim());
            }
        }
        return parts;
    }
}
