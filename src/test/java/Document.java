import java.io.IOException;
import java.nio.charset.StandardCharsets;
import java.nio.file.Files;
import java.nio.file.Path;
import java.util.Map;
import java.util.TreeMap;

/** The document, against which the sentences that tests name are held; at the end none of them must be left out. */
final class Document {
    private static final Map<String, String> TEXTS = new TreeMap<>();
    private static final Map<String, boolean[]> NAMED = new TreeMap<>();

    private Document() { }

    static void read(Path path) throws IOException {
        for (String part : Files.readString(path, StandardCharsets.UTF_8).split("(?m)^## ")) {
            String[] headAndText = part.split("\n", 2);
            String head = headAndText[0].replaceAll(":.*", "").trim();
            if (head.equals("Terms") || head.matches("Promise \\d+")) {
                String text = plain(headAndText[1]);
                TEXTS.put(head, text);
                NAMED.put(head, new boolean[text.length()]);
            }
        }
    }

    /** Without what only shapes the page: fences, rules, the signatures, the list of the interface's headings. */
    private static String plain(String text) {
        return text.replaceAll("(?m)^Ahead of the calls.*$", " ").replaceAll("```(text)?", " ")
            .replaceAll("(?m)^=+", " ").replaceAll("(?m)^`[^`]*`:", " ").replaceAll("\\s+", " ").trim();
    }

    /** Whether the sentence stands there. */
    static boolean name(String where, String sentence) {
        String text = TEXTS.getOrDefault(where, "");
        boolean stands = false;
        for (int at = text.indexOf(sentence); at >= 0; at = text.indexOf(sentence, at + 1)) {
            for (int i = at; i < at + sentence.length(); i++) {
                NAMED.get(where)[i] = true;
            }
            stands = true;
        }
        return stands;
    }

    static int promises() {
        return TEXTS.size() - (TEXTS.containsKey("Terms") ? 1 : 0);
    }

    /** What no test has named, with where it stands; empty, if there is nothing. */
    static String unnamed() {
        StringBuilder left = new StringBuilder();
        for (String where : TEXTS.keySet()) {
            StringBuilder here = new StringBuilder();
            for (int i = 0; i < TEXTS.get(where).length(); i++) {
                here.append(NAMED.get(where)[i] ? '\n' : TEXTS.get(where).charAt(i));
            }
            for (String piece : here.toString().split("\n+")) {
                if (piece.matches(".*[A-Za-z0-9].*")) {
                    left.append("\n  ").append(where).append(": ").append(piece.trim());
                }
            }
        }
        return left.toString();
    }
}
