import java.io.IOException;
import java.nio.file.Files;
import java.nio.file.Path;
import java.util.LinkedHashMap;
import java.util.Map;

/**
 * The document's sentences, each with the test that is its own. A test quotes the words that it stands for: words that
 * the document does not say, and words of the document that no test quotes, are told as faults.
 */
final class Sentences extends Bench {
    private final Map<String, String> sections = new LinkedHashMap<>();
    private final Map<String, boolean[]> quoted = new LinkedHashMap<>();
    private String section = "";
    private int tests = 0;

    Sentences(Path document) throws IOException {
        StringBuilder words = new StringBuilder();
        String title = "";
        for (String line : Files.readAllLines(document)) {
            if (line.startsWith("## ")) {
                keep(title, words);
                title = line.substring(3).replaceAll(":.*", "");
            } else if (!line.startsWith("```") && !line.startsWith("Ahead of the calls")) {
                words.append(line.replaceAll("^==== \\d ", "")).append(' ');
            }
        }
        keep(title, words);
    }

    private void keep(String title, StringBuilder words) {
        // What stands in backticks is the face, which FaceTest looks at.
        String text = words.toString().replaceAll("`[^`]*`", "").replaceAll("\\s+", " ");
        sections.put(title, text);
        quoted.put(title, new boolean[text.length()]);
        words.setLength(0);
    }

    void of(String title) {
        section = title;
    }

    void says(String words, Runnable test) {
        tests++;
        at(section + ", '" + words + "'");
        quote(words);
        int before = lookedAt();
        try {
            test.run();
        } catch (RuntimeException thrown) {
            fails("threw " + thrown);
        }
        if (lookedAt() == before) {
            fails("looked at no answer");
        }
    }

    private void quote(String words) {
        String text = sections.getOrDefault(section, "");
        int at = text.indexOf(words);
        if (at < 0) {
            fails("the document does not say so");
        }
        for (; at >= 0; at = text.indexOf(words, at + 1)) {
            for (int i = at; i < at + words.length(); i++) {
                quoted.get(section)[i] = true;
            }
        }
    }

    /** Ends the tests; each word of the Terms and of the promises must have been quoted. */
    void end() {
        for (String title : sections.keySet()) {
            if (title.equals("Terms") || title.startsWith("Promise")) {
                at(title);
                tellUnquoted(sections.get(title), quoted.get(title));
            }
        }
        end(tests + " sentences");
    }

    private static void tellUnquoted(String text, boolean[] isQuoted) {
        StringBuilder left = new StringBuilder();
        for (int i = 0; i <= text.length(); i++) {
            if (i < text.length() && !isQuoted[i]) {
                left.append(text.charAt(i));
            } else if (left.length() > 0) {
                if (left.toString().matches(".*[A-Za-z0-9].*")) {
                    fails("no test is of the words '" + left + "'");
                }
                left.setLength(0);
            }
        }
    }
}
