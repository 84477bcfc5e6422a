import java.io.IOException;
import java.io.UncheckedIOException;
import java.nio.file.Files;
import java.nio.file.Path;
import java.util.ArrayList;
import java.util.BitSet;
import java.util.LinkedHashMap;
import java.util.List;
import java.util.Map;

/** The words of ../shared/DOC.md by the headings that they stand under, and which of them have been quoted. */
final class Document {
    static final int NOT_THERE = -1;

    private static final Path PATH = Path.of("..", "shared", "DOC.md");

    private static final class Section {
        final StringBuilder words = new StringBuilder();
        final List<Integer> lines = new ArrayList<>();
        final BitSet quoted = new BitSet();

        void add(String line, int number) {
            words.append(line).append(' ');
            while (lines.size() < words.length()) {
                lines.add(number);
            }
        }
    }

    private final Map<String, Section> sections = new LinkedHashMap<>();

    Document() {
        try {
            read(Files.readAllLines(PATH));
        } catch (IOException e) {
            throw new UncheckedIOException(e);
        }
    }

    private void read(List<String> lines) {
        Section section = new Section();
        for (int i = 0; i < lines.size(); i++) {
            String line = lines.get(i).trim().replaceAll("\\s+", " ");
            if (line.startsWith("## ")) {
                section = new Section();
                sections.put(line.substring(3).replaceFirst(":.*", ""), section);
            } else if (!line.isEmpty() && !line.startsWith("```")) {
                section.add(line, i + 1);
            }
        }
    }

    /** The line where the words begin under a heading; NOT_THERE if they are not there, or more than once. */
    int quote(String heading, String words) {
        Section section = sections.get(heading);
        int from = section == null ? -1 : section.words.indexOf(words);
        if (from < 0 || section.words.indexOf(words, from + 1) >= 0) {
            return NOT_THERE;
        }
        section.quoted.set(from, from + words.length());
        return section.lines.get(from);
    }

    /** The words that have not been quoted, each with its heading. */
    List<String> unquoted() {
        List<String> rest = new ArrayList<>();
        for (Map.Entry<String, Section> entry : sections.entrySet()) {
            addUnquoted(entry.getKey(), entry.getValue(), rest);
        }
        return rest;
    }

    private static void addUnquoted(String heading, Section section, List<String> rest) {
        int from = section.quoted.nextClearBit(0);
        while (from < section.words.length()) {
            int to = section.quoted.nextSetBit(from);
            to = to < 0 ? section.words.length() : to;
            String words = section.words.substring(from, to).trim();
            if (!words.isEmpty()) {
                rest.add(heading + ": " + words);
            }
            from = section.quoted.nextClearBit(to);
        }
    }
}
