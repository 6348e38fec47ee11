import java.io.IOException;
import java.nio.charset.StandardCharsets;
import java.nio.file.Files;
import java.nio.file.Path;
import java.util.ArrayList;
import java.util.LinkedHashMap;
import java.util.List;
import java.util.Map;

/** The document's words by sections ("Terms", "Promise 1", ..), and which of them tests have quoted. */
final class Doc {
    private static final Path FILE = Path.of("../shared/DOC.md");

    private static final class Section {
        private final StringBuilder words = new StringBuilder();
        private final List<int[]> clauses = new ArrayList<>();
        private final List<int[]> quotes = new ArrayList<>();

        /** A clause ends with . or ; ahead of a blank, but for the dots of a span like 0 .. 5, of I. II. III. */
        private void add(String line) {
            for (String clause : line.split("(?<=[^.I][.;]) ")) {
                int from = words.length();
                words.append(clause).append(' ');
                clauses.add(new int[] {from, words.length() - 1});
            }
        }

        private boolean quote(String quote) {
            boolean found = false;
            for (int at = words.indexOf(quote); at >= 0; at = words.indexOf(quote, at + 1)) {
                quotes.add(new int[] {at, at + quote.length()});
                found = true;
            }
            return found;
        }

        private List<String> unquoted() {
            List<String> found = new ArrayList<>();
            for (int[] clause : clauses) {
                boolean quoted = false;
                for (int[] quote : quotes) {
                    quoted |= quote[0] < clause[1] && clause[0] < quote[1];
                }
                if (!quoted) {
                    found.add(words.substring(clause[0], clause[1]));
                }
            }
            return found;
        }
    }

    private final Map<String, Section> sections = new LinkedHashMap<>();

    /** Without the file there is no section, and nothing is looked up. */
    Doc() throws IOException {
        List<String> lines = Files.isReadable(FILE)
            ? Files.readAllLines(FILE, StandardCharsets.UTF_8) : List.of();
        Section section = null;
        for (String line : lines) {
            if (line.startsWith("## ")) {
                String title = line.substring(3).replaceFirst(":.*", "");
                boolean binds = title.equals("Terms") || title.startsWith("Promise ");
                section = binds ? new Section() : null;
                if (binds) {
                    sections.put(title, section);
                }
            } else if (section != null && !line.isBlank() && !line.startsWith("```")
                    && !line.startsWith("Ahead of the calls")) {
                section.add(line.strip().replaceFirst("^`[^`]*\\)`: ", "").replaceAll("\\s+", " "));
            }
        }
    }

    boolean isThere() {
        return !sections.isEmpty();
    }

    boolean quote(String title, String quote) {
        return !isThere() || sections.containsKey(title) && sections.get(title).quote(quote);
    }

    /** Clauses that no test has quoted, each behind its section's title. */
    List<String> unquoted() {
        List<String> found = new ArrayList<>();
        sections.forEach((title, section) -> section.unquoted().forEach(clause -> found.add(title + ": " + clause)));
        return found;
    }
}
