import java.io.IOException;
import java.nio.file.Files;
import java.nio.file.Path;
import java.util.ArrayList;
import java.util.LinkedHashMap;
import java.util.List;
import java.util.Map;

/** The sentences of the document that tests have named, to be held against the document itself. */
final class Sentences {
    private final Check check;
    private final Map<String, List<String>> named = new LinkedHashMap<>();
    private boolean open;
    private int askedBefore;

    Sentences(Check check) {
        this.check = check;
    }

    /** Names a sentence, or a part of one; the answers that follow are about it. */
    void name(String section, String words) {
        close();
        open = true;
        askedBefore = check.asked();
        check.about(section + ", \"" + words + "\"");
        add(section, words);
    }

    /** Names a sentence that makes no answer due by itself. */
    void leaveOut(String section, String words) {
        close();
        add(section, words);
    }

    void due(String call, int got, int want) {
        check.due(call, got, want);
    }

    private void add(String section, String words) {
        named.computeIfAbsent(section, key -> new ArrayList<>()).add(words);
    }

    private void close() {
        if (open) {
            check.due("answers asked for", Math.min(check.asked() - askedBefore, 1), 1);
        }
        open = false;
    }

    /** Looks that each named sentence stands in the document, and that no word of it is left unnamed. */
    void compareWith(Path document) throws IOException {
        close();
        check.about("the document's sentences");
        if (!Files.isReadable(document)) {
            System.out.println(document + " is not here: the sentences are not compared with it");
            return;
        }
        Map<String, String> sections = sectionsOf(Files.readAllLines(document));
        for (String section : named.keySet()) {
            check.due("section \"" + section + "\" is there", sections.containsKey(section) ? 1 : 0, 1);
        }
        sections.remove("PageRotas");
        sections.remove("Not promised");
        for (Map.Entry<String, String> section : sections.entrySet()) {
            compare(section.getKey(), section.getValue());
        }
    }

    private static Map<String, String> sectionsOf(List<String> lines) {
        Map<String, String> sections = new LinkedHashMap<>();
        String title = "";
        for (String line : lines) {
            if (line.startsWith("#")) {
                title = line.replaceAll("^#+ *", "").replaceAll("^(Promise \\d+):.*", "$1");
                sections.put(title, "");
            } else if (!line.startsWith("```")) {
                sections.merge(title, line.strip() + " ", (before, more) -> (before + more).replaceAll(" +", " "));
            }
        }
        return sections;
    }

    private void compare(String section, String text) {
        boolean[] seen = new boolean[text.length()];
        for (String words : named.getOrDefault(section, List.of())) {
            int at = text.indexOf(words);
            check.due(section + " has \"" + words + "\"", at >= 0 ? 1 : 0, 1);
            for (; at >= 0; at = text.indexOf(words, at + 1)) {
                java.util.Arrays.fill(seen, at, at + words.length(), true);
            }
        }
        StringBuilder unnamed = new StringBuilder();
        for (int i = 0; i < text.length(); i++) {
            if (!seen[i] && Character.isLetterOrDigit(text.charAt(i))) {
                unnamed.append(text.charAt(i));
            } else if (unnamed.length() > 0 && unnamed.charAt(unnamed.length() - 1) != ' ') {
                unnamed.append(' ');
            }
        }
        check.due("unnamed in " + section + ": \"" + unnamed.toString().strip() + "\"", unnamed.length(), 0);
    }
}
