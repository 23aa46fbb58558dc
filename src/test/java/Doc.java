import java.io.IOException;
import java.nio.file.Files;
import java.nio.file.Path;
import java.util.ArrayList;
import java.util.LinkedHashMap;
import java.util.List;
import java.util.Map;

/** The document by its sections, and which of its words a test has quoted: so no sentence can be left out. */
final class Doc {
    private final Map<String, String> texts = new LinkedHashMap<>();
    private final Map<String, boolean[]> quoted = new LinkedHashMap<>();

    Doc(Path path) throws IOException {
        String whole = Files.readString(path);
        keep("What it is", between(whole, "## What it is", "## The public face"));
        String terms = between(whole, "## Terms", "## Promise 1:");
        String[] parts = terms.split("========\\s+\\d\\s");
        for (int part = 0; part < parts.length; part++) {
            keep("Terms " + part, parts[part].replace("```text", "").replace("```", ""));
        }
        String[] promises = between(whole, "## Promise 1:", "## Not promised").split("## Promise \\d+:");
        for (int i = 0; i < promises.length; i++) {
            // The name in the heading and the signature are the face, which FaceTest looks at.
            keep("Promise " + (i + 1), promises[i].replaceFirst("(?s)^.*?`[^`]*`:", ""));
        }
        keep("Not promised", whole.substring(whole.indexOf("## Not promised") + "## Not promised".length()));
    }

    private static String between(String whole, String from, String to) {
        int start = whole.indexOf(from) + from.length();
        return whole.substring(start, whole.indexOf(to, start));
    }

    private void keep(String section, String text) {
        String plain = text.replaceAll("\\s+", " ").trim();
        texts.put(section, plain);
        quoted.put(section, new boolean[plain.length()]);
    }

    /** Whether the section has the sentence; the first place of it that is not quoted yet is quoted then. */
    boolean quote(String section, String sentence) {
        String text = texts.getOrDefault(section, "");
        int at = text.indexOf(sentence);
        boolean has = at >= 0;
        while (at >= 0 && quoted.get(section)[at]) {
            at = text.indexOf(sentence, at + 1);
        }
        for (int i = 0; at >= 0 && i < sentence.length(); i++) {
            quoted.get(section)[at + i] = true;
        }
        return has;
    }

    /** The sections with words that nobody quoted, and these words. */
    List<String> left() {
        List<String> left = new ArrayList<>();
        for (Map.Entry<String, String> section : texts.entrySet()) {
            StringBuilder words = new StringBuilder();
            for (int i = 0; i < section.getValue().length(); i++) {
                words.append(quoted.get(section.getKey())[i] ? ' ' : section.getValue().charAt(i));
            }
            String rest = words.toString().replaceAll("\\s+", " ").trim();
            if (!rest.isEmpty()) {
                left.add(section.getKey() + ": " + rest);
            }
        }
        return left;
    }

    int sections() {
        return texts.size();
    }
}
