import java.io.IOException;
import java.nio.file.Files;
import java.nio.file.Path;
import java.util.ArrayList;
import java.util.BitSet;
import java.util.HashMap;
import java.util.LinkedHashMap;
import java.util.List;
import java.util.Map;
import java.util.Set;

/** The terms and the promises of the document, heading by heading, and which of their words were quoted. */
final class Document {
    private static final Set<String> TERMS = Set.of("Terms", "Settings", "Drives, time", "A minute", "Texts");

    private final Map<String, String> texts = new LinkedHashMap<>();
    private final Map<String, BitSet> quoted = new HashMap<>();

    static Document read(Path file) throws IOException {
        Document document = new Document();
        String heading = "";
        for (String line : Files.readAllLines(file)) {
            if (line.startsWith("#")) {
                heading = line.replaceFirst("^#+ ", "");
            } else if (TERMS.contains(line)) {
                heading = line;
            } else if (!line.startsWith("```")) {
                document.add(heading, line);
            }
        }
        return document;
    }

    private void add(String heading, String line) {
        if (TERMS.contains(heading) || heading.startsWith("Promise ")) {
            // What a call is named, and what it takes, is told by the public face.
            String words = line.replaceFirst("^`[^`]*\\)`: ", "").trim().replaceAll("\\s+", " ");
            texts.merge(heading, words, (before, more) -> (before + " " + more).trim());
        }
    }

    /** Marks the words as quoted; false if they do not stand under the heading. */
    boolean quote(String heading, String words) {
        String text = texts.getOrDefault(heading, "");
        BitSet marks = quoted.computeIfAbsent(heading, unused -> new BitSet());
        int at = text.indexOf(words);
        boolean found = at >= 0 && !words.isEmpty();
        while (at >= 0 && !words.isEmpty()) {
            marks.set(at, at + words.length());
            at = text.indexOf(words, at + words.length());
        }
        return found;
    }

    /** The words, each stretch with its heading, that were not quoted. */
    List<String> unquoted() {
        List<String> stretches = new ArrayList<>();
        for (Map.Entry<String, String> section : texts.entrySet()) {
            String text = section.getValue();
            BitSet marks = quoted.getOrDefault(section.getKey(), new BitSet());
            for (int from = marks.nextClearBit(0); from < text.length(); ) {
                int to = marks.nextSetBit(from) < 0 ? text.length() : Math.min(marks.nextSetBit(from), text.length());
                if (text.substring(from, to).chars().anyMatch(Character::isLetter)) {
                    stretches.add(section.getKey() + ": " + text.substring(from, to));
                }
                from = marks.nextClearBit(to);
            }
        }
        return stretches;
    }

    /** The names of the calls, in the order of their promises; the constructor's is that of its heading. */
    List<String> calls() {
        List<String> calls = new ArrayList<>();
        for (String heading : texts.keySet()) {
            if (heading.startsWith("Promise ")) {
                calls.add(heading.replaceFirst("^Promise \\d+: ", ""));
            }
        }
        return calls;
    }

    /** What is promised of a call; nothing if there is no such call. */
    String promiseOf(String call) {
        for (Map.Entry<String, String> section : texts.entrySet()) {
            if (section.getKey().matches("Promise \\d+: " + call)) {
                return section.getValue();
            }
        }
        return "";
    }

    int headings() {
        return texts.size();
    }
}
