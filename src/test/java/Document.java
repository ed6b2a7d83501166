import java.io.IOException;
import java.nio.file.Files;
import java.nio.file.Path;
import java.util.ArrayList;
import java.util.LinkedHashMap;
import java.util.List;
import java.util.Map;

/** The text of ../shared/DOC.md by its sections, and what of it no test has quoted. */
final class Document {
    private final Map<String, String> texts = new LinkedHashMap<>();
    private final Map<String, boolean[]> quoted = new LinkedHashMap<>();

    Document() {
        String heading = "";
        StringBuilder text = new StringBuilder();
        for (String line : lines()) {
            if (line.startsWith("## ")) {
                keep(heading, text);
                heading = line.substring(3);
                text.setLength(0);
            } else if (!line.startsWith("```")) {
                text.append(line).append(' ');
            }
        }
        keep(heading, text);
    }

    /** The face's lines, and the heads of the promises, in the document's order. */
    static List<String> face() {
        return found("^ +public (.*);$", "The public face");
    }

    static List<String> heads() {
        return found("^`([^`]*)`: .*$", "Promise ");
    }

    private static List<String> found(String pattern, String section) {
        List<String> found = new ArrayList<>();
        String heading = "";
        for (String line : lines()) {
            heading = line.startsWith("## ") ? line.substring(3) : heading;
            if (heading.startsWith(section) && line.matches(pattern)) {
                found.add(line.replaceAll(pattern, "$1"));
            }
        }
        return found;
    }

    private static List<String> lines() {
        try {
            return Files.readAllLines(Path.of("..", "shared", "DOC.md"));
        } catch (IOException e) {
            throw new AssertionError("there is no ../shared/DOC.md", e);
        }
    }

    private void keep(String heading, StringBuilder text) {
        // A call's head stands between ` and is FaceTest's.
        String words = text.toString().replaceAll("`[^`]*`", " ").replaceAll("\\s+", " ").trim();
        texts.put(heading, words);
        quoted.put(heading, new boolean[words.length()]);
    }

    /** Notes a quotation; false when the section does not have it. */
    boolean quote(String heading, String words) {
        String text = texts.getOrDefault(heading, "");
        int at = text.indexOf(words);
        boolean isThere = at >= 0;
        while (at >= 0) {
            for (int i = at; i < at + words.length(); i++) {
                quoted.get(heading)[i] = true;
            }
            at = text.indexOf(words, at + 1);
        }
        return isThere;
    }

    /** The words that were never quoted. The face is FaceTest's, and what is not promised nobody's. */
    String unquoted() {
        StringBuilder rest = new StringBuilder();
        for (String heading : texts.keySet()) {
            if (heading.equals("What it is") || heading.equals("Terms") || heading.startsWith("Promise ")) {
                String words = unquoted(heading);
                rest.append(words.isEmpty() ? "" : heading + ": " + words + "\n");
            }
        }
        return rest.toString();
    }

    private String unquoted(String heading) {
        String text = texts.get(heading);
        StringBuilder rest = new StringBuilder();
        for (int i = 0; i < text.length(); i++) {
            boolean counts = Character.isLetterOrDigit(text.charAt(i)) && !quoted.get(heading)[i];
            rest.append(counts ? text.charAt(i) : ' ');
        }
        return rest.toString().replaceAll("\\s+", " ").trim();
    }
}
