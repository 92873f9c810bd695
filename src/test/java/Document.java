import java.io.IOException;
import java.nio.file.Files;
import java.nio.file.Path;
import java.util.ArrayList;
import java.util.LinkedHashMap;
import java.util.List;
import java.util.Map;

/** DOC.md, part by part, and which of its words a test has named. */
final class Document {
    private static final String[] ABOVE_THE_PROMISES = {"Terms", "What it is"};

    private static final class Part {
        final String text;
        final boolean[] named;

        Part(String text) {
            this.text = text;
            named = new boolean[text.length()];
        }

        boolean name(String words) {
            int at = text.indexOf(words);
            if (at < 0) {
                return false;
            }
            mark(at, at + words.length());
            return true;
        }

        void mark(int from, int end) {
            for (int i = from; i < end; i++) {
                named[i] = true;
            }
        }
    }

    private final Map<String, Part> parts = new LinkedHashMap<>();

    Document() throws IOException {
        String whole = Files.readString(Path.of("../shared/DOC.md"));
        for (String section : whole.split("(?m)^## ")) {
            int end = section.indexOf('\n');
            String heading = section.substring(0, end).split(":")[0];
            parts.put(heading, new Part(section.substring(end).replaceAll("```\\w*|=====+", "").replaceAll("\\s+", " ")));
        }
    }

    /** Whether the words stand in the promise's own part or in what stands above the promises. */
    boolean name(String promise, String words) {
        Part own = parts.get(promise);
        if (own == null) {
            return false;
        }
        if (own.name(words)) {
            return true;
        }
        for (String heading : ABOVE_THE_PROMISES) {
            if (parts.get(heading).name(words)) {
                return true;
            }
        }
        return false;
    }

    /** Words that bind nothing by themselves, from the first to the last of these: a heading, a frame, a summary. */
    void pass(String heading, String first, String last) {
        Part part = parts.get(heading);
        int from = part.text.indexOf(first);
        int end = part.text.indexOf(last, Math.max(from, 0));
        if (from < 0 || end < 0) {
            throw new IllegalStateException("not in '" + heading + "': " + first + " .. " + last);
        }
        part.mark(from, end + last.length());
    }

    /** What no test has named, with the part that it stands in. */
    List<String> unnamed() {
        List<String> found = new ArrayList<>();
        for (Map.Entry<String, Part> entry : parts.entrySet()) {
            boolean binds = entry.getKey().startsWith("Promise ") || entry.getKey().equals("Terms")
                || entry.getKey().equals("What it is");
            if (binds) {
                addUnnamed(entry.getKey(), entry.getValue(), found);
            }
        }
        return found;
    }

    private static void addUnnamed(String heading, Part part, List<String> found) {
        int from = 0;
        for (int i = 0; i <= part.text.length(); i++) {
            if (i < part.text.length() && !part.named[i]) {
                continue;
            }
            String words = part.text.substring(from, i);
            if (words.chars().anyMatch(Character::isLetterOrDigit)) {
                found.add(heading + ": " + words);
            }
            from = i + 1;
        }
    }
}
