import java.io.IOException;
import java.io.UncheckedIOException;
import java.nio.file.Files;
import java.nio.file.Path;
import java.util.LinkedHashMap;
import java.util.Map;

/** The text of the document by its headings, and which of its words a test quotes. */
final class Document {
    private static final Path PATH = Path.of("../shared/DOC.md");

    private static final class Section {
        private final String text;
        private final boolean[] quoted;

        Section(String text) {
            this.text = text;
            quoted = new boolean[text.length()];
        }
    }

    private final Map<String, Section> sections = new LinkedHashMap<>();

    Document() {
        for (String section : read().split("(?m)^#+ ")) {
            String[] halves = section.split("\n", 2);
            if (halves.length == 2) {
                sections.put(halves[0].split(":")[0].trim(), new Section(plain(halves[1])));
            }
        }
    }

    private static String read() {
        try {
            return Files.readString(PATH);
        } catch (IOException e) {
            throw new UncheckedIOException(e);
        }
    }

    /** Without blocks of code, without the line of the face that a promise begins with, and in one line. */
    private static String plain(String text) {
        String words = text.replaceAll("(?s)```.*?```", "").trim();
        return words.replaceAll("^`[^`]*\\([^`]*`:", "").replaceAll("\\s+", " ").trim();
    }

    /** Whether these words stand under the heading; they are quoted then. */
    boolean quote(String heading, String words) {
        Section section = sections.get(heading);
        boolean isThere = false;
        if (section != null) {
            for (int at = section.text.indexOf(words); at >= 0; at = section.text.indexOf(words, at + 1)) {
                isThere = true;
                java.util.Arrays.fill(section.quoted, at, at + words.length(), true);
            }
        }
        return isThere;
    }

    Iterable<String> headings() {
        return sections.keySet();
    }

    /** What no test quotes under a heading, signs between words aside. */
    String unquoted(String heading) {
        Section section = sections.get(heading);
        StringBuilder left = new StringBuilder();
        for (int i = 0; i < section.text.length(); i++) {
            left.append(section.quoted[i] ? ' ' : section.text.charAt(i));
        }
        String words = left.toString().replaceAll("\\s+", " ").trim();
        return words.matches("[ .,;:-]*") ? "" : words;
    }
}
