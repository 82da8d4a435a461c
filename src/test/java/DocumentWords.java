import java.io.IOException;
import java.nio.charset.StandardCharsets;
import java.nio.file.Files;
import java.nio.file.Path;
import java.util.Arrays;
import java.util.Map;
import java.util.TreeMap;

/** The sections of the document that tests quote, and which of their words no test has quoted. */
final class DocumentWords {
    private static final Path DOCUMENT = Path.of("../shared/DOC.md");

    private final Map<String, String> words = new TreeMap<>();
    private final Map<String, boolean[]> quoted = new TreeMap<>();

    DocumentWords() throws IOException {
        for (String section : Files.readString(DOCUMENT, StandardCharsets.UTF_8).split("(?m)^## ")) {
            String[] headAndBody = section.split("\n", 2);
            String prefix = prefixOf(headAndBody[0]);
            if (!prefix.isEmpty()) {
                String body = wordsOf(prefix, headAndBody[1]);
                words.put(prefix, body);
                quoted.put(prefix, new boolean[body.length()]);
            }
        }
    }

    static boolean canBeRead() {
        return Files.isReadable(DOCUMENT);
    }

    /** What the names of the tests for a section begin with; nothing if none are for it. */
    private static String prefixOf(String head) {
        if (head.startsWith("Promise ")) {
            return String.format("promise%02d", Integer.parseInt(head.substring(8, head.indexOf(':'))));
        }
        return head.equals("Terms") ? "terms" : head.equals("What it is") ? "whatItIs" : "";
    }

    /** A promise begins with its method's head, which is the face's; it and the fences are left out. */
    private static String wordsOf(String prefix, String body) {
        String plain = body.replaceAll("(?m)^```.*$", " ").replaceAll("\\s+", " ").trim();
        return prefix.startsWith("promise") ? plain.replaceFirst("^`[^`]*`: ", "") : plain;
    }

    /** Whether the words stand in the section; all places where they do are quoted then. */
    boolean quote(String prefix, String sentence) {
        String body = words.getOrDefault(prefix, "");
        int at = sentence.isEmpty() ? -1 : body.indexOf(sentence);
        boolean found = at >= 0;
        while (at >= 0) {
            Arrays.fill(quoted.get(prefix), at, at + sentence.length(), true);
            at = body.indexOf(sentence, at + 1);
        }
        return found;
    }

    /** Each section's words that no test quotes; punctuation between quotes does not count. */
    Map<String, String> notQuoted() {
        Map<String, String> left = new TreeMap<>();
        for (Map.Entry<String, String> section : words.entrySet()) {
            StringBuilder rest = new StringBuilder();
            boolean[] marks = quoted.get(section.getKey());
            for (int i = 0; i < marks.length; i++) {
                rest.append(marks[i] ? ' ' : section.getValue().charAt(i));
            }
            left.put(section.getKey(), rest.toString().replaceAll("[\\s,;:.]+", " ").trim());
        }
        return left;
    }
}
