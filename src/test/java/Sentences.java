import java.io.IOException;
import java.nio.file.Files;
import java.nio.file.Path;
import java.util.ArrayList;
import java.util.List;
import java.util.Map;
import java.util.TreeMap;

/**
 * Answers that are due, told under the sentences of the document that ask for them. At the end each sentence
 * must stand in its section of the document and have answers on both sides of its boundary, and no word of
 * the terms or the promises may stand outside of all sentences.
 */
final class Sentences {
    static final int TERMS = 0;
    private static final int PROMISES = 34;
    private static final Path DOCUMENT = Path.of("../shared/DOC.md");

    private final Map<Integer, List<String>> said = new TreeMap<>();
    private final Map<String, Integer> answers = new TreeMap<>();
    private int section;
    private String sentence = "";
    private int checks;
    private int wrong;

    /** The answers that follow are due by a sentence of a promise, or of the terms. */
    void says(int ofSection, String words) {
        section = ofSection;
        sentence = words;
        said.computeIfAbsent(section, k -> new ArrayList<>()).add(words);
        answers.putIfAbsent(key(section, words), 0);
    }

    private static String key(int ofSection, String words) {
        return (ofSection == TERMS ? "terms" : "promise " + ofSection) + ": " + words;
    }

    void due(String call, Object got, Object want) {
        checks++;
        answers.merge(key(section, sentence), 1, Integer::sum);
        if (!String.valueOf(got).equals(String.valueOf(want))) {
            tell(key(section, sentence) + "\n    " + call + " answered " + got + ", due is " + want);
        }
    }

    private void tell(String what) {
        wrong++;
        System.out.println(what);
    }

    /** The text has a fault of a kind where the sign ^ stands; the sign itself is left out. */
    void fault(int kind, String marked) {
        String text = marked.replace("^", "");
        BallPots x = new BallPots();
        due("lines of " + text, Tapes.read(x, text), -1);
        due("fault of " + text, x.fault(0), kind);
        due("place of the fault of " + text, x.fault(1), marked.indexOf('^'));
    }

    /** The text is sound and has so many lines. */
    BallPots sound(int lines, String text) {
        BallPots x = new BallPots();
        due("lines of " + text, Tapes.read(x, text), lines);
        due("fault of " + text, x.fault(0), 0);
        due("place of the fault of " + text, x.fault(1), -1);
        return x;
    }

    /** How many things are not as due, after the document itself has been looked at. */
    int finish() throws IOException {
        Map<Integer, String> document = sections();
        for (Map.Entry<String, Integer> entry : answers.entrySet()) {
            if (entry.getValue() < 2) {
                tell("too few answers: " + entry.getKey());
            }
        }
        for (int k = 0; k <= PROMISES && Files.exists(DOCUMENT); k++) {
            lookAt(k, document.getOrDefault(k, ""));
        }
        System.out.println(checks + " answers under " + answers.size() + " sentences, " + wrong + " are not as due");
        return wrong;
    }

    private void lookAt(int k, String text) {
        boolean[] covered = new boolean[text.length()];
        for (String words : said.getOrDefault(k, List.of())) {
            int at = text.indexOf(words);
            if (at < 0) {
                tell("the document does not say this: " + key(k, words));
            }
            for (int i = at; at >= 0 && i < at + words.length(); i++) {
                covered[i] = true;
            }
        }
        for (int from = 0; from < covered.length; from++) {
            int end = from;
            while (end < covered.length && !covered[end]) {
                end++;
            }
            if (!text.substring(from, end).isBlank()) {
                tell("no test: " + key(k, text.substring(from, end)));
            }
            from = end;
        }
    }

    /** The terms as section 0, then what the promises say behind their methods; all blanks as one. */
    private static Map<Integer, String> sections() throws IOException {
        Map<Integer, String> map = new TreeMap<>();
        String whole = Files.exists(DOCUMENT) ? Files.readString(DOCUMENT) : "";
        for (String part : whole.split("\n## ")) {
            String text = part.replace("```text", " ").replace("```", " ").replaceAll("\\s+", " ");
            if (text.startsWith("Terms ")) {
                map.put(TERMS, text.substring(6));
            } else if (text.startsWith("Promise ")) {
                int promise = Integer.parseInt(text.substring(8, text.indexOf(':')));
                map.put(promise, text.substring(text.indexOf("`: ") + 3));
            }
        }
        return map;
    }
}
