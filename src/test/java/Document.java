import java.io.IOException;
import java.nio.file.Files;
import java.nio.file.Path;
import java.util.LinkedHashMap;
import java.util.Map;
import java.util.Set;
import java.util.TreeSet;

/** The document's text by its headings, and which of its words a test has said that it is about. */
final class Document {
    /** "Promise 2: question" is told by "Promise 2". */
    private final Map<String, String> texts = new LinkedHashMap<>();
    private final Map<String, boolean[]> cited = new LinkedHashMap<>();

    Document(Path path) throws IOException {
        if (!Files.isRegularFile(path)) return;
        for (String part : Files.readString(path).split("(?m)^## ")) {
            int end = part.indexOf('\n');
            if (end < 0) continue;
            String heading = part.substring(0, end).strip().replaceAll("(Promise \\d+):.*", "$1");
            String text = inOneLine(part.substring(end));
            texts.put(heading, text);
            cited.put(heading, new boolean[text.length()]);
        }
    }

    boolean isThere() {
        return !texts.isEmpty();
    }

    /** How lines are broken and fenced says nothing, and a promise's signature is FaceTest's. */
    private static String inOneLine(String text) {
        return text.replace("```text", " ").replace("```", " ").replaceAll("\\s+", " ").strip()
            .replaceAll("^`(int|long) [^`]*`: ", "").replaceAll("^`HouseholdVault\\(\\)`: ", "");
    }

    /** Tells whether the words stand under the heading, and remembers that they were cited. */
    boolean cite(String heading, String words) {
        String text = texts.get(heading);
        if (text == null || words.isEmpty()) return false;
        int at = text.indexOf(words);
        if (at < 0) return false;
        boolean[] marks = cited.get(heading);
        for (; at >= 0; at = text.indexOf(words, at + 1)) {
            for (int i = 0; i < words.length(); i++) marks[at + i] = true;
        }
        return true;
    }

    /** The headings of the terms and of the promises, which must be cited to the last word. */
    Set<String> bindingHeadings() {
        Set<String> all = new TreeSet<>();
        for (String heading : texts.keySet()) {
            if (heading.equals("Terms") || heading.startsWith("Promise ")) all.add(heading);
        }
        return all;
    }

    /** The words under a heading that no test has cited, with a bar where others stand between them. */
    String notCited(String heading) {
        String text = texts.get(heading);
        boolean[] marks = cited.get(heading);
        StringBuilder left = new StringBuilder();
        for (int i = 0; i < text.length(); i++) {
            left.append(marks[i] ? '|' : text.charAt(i));
        }
        String bare = left.toString().replaceAll("Ahead of the calls .*? the interface says: ---- [a-z, ]+\\.", " ");
        bare = bare.replaceAll("======== \\d", " ").replaceAll("[| ]*\\|[| ]*", " | ").strip();
        return bare.matches("[| ]*") ? "" : bare;
    }
}
