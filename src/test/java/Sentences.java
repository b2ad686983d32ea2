import java.io.IOException;
import java.nio.file.Files;
import java.nio.file.Path;
import java.util.ArrayList;
import java.util.List;
import java.util.Map;
import java.util.TreeMap;
import java.util.function.IntUnaryOperator;

/**
 * Sentences of the document, each with the answers that would be others if it were broken. A place is
 * "Promise 2", say, or a heading of the terms, as "SHARES".
 */
final class Sentences {
    private static final Path DOCUMENT = Path.of("../shared/DOC.md");

    private final Checks checks = new Checks();
    private final Map<String, String> sections;
    private final Map<String, List<String>> quoted = new TreeMap<>();
    private String sentence = "";
    private int answers = 0;
    private int sentences = 0;

    Sentences() throws IOException {
        // Without the document the answers are still due; only the wording cannot be looked up.
        sections = Files.exists(DOCUMENT) ? sectionsOf(Files.readString(DOCUMENT)) : Map.of();
    }

    private static Map<String, String> sectionsOf(String document) {
        Map<String, String> found = new TreeMap<>();
        String place = "";
        for (String line : document.split("\n")) {
            if (line.startsWith("#") || line.matches("[A-Z]+(, [A-Z]+)*")) {
                place = line.replaceAll("^#+ ", "").replaceAll("^(Promise \\d+):.*", "$1");
            } else {
                found.merge(place, line + "\n", String::concat);
            }
        }
        return found;
    }

    /** From here on the answers are those of another sentence. */
    void of(String place, String words) {
        lookAtTheLast();
        sentence = place + " \"" + words + "\": ";
        answers = 0;
        sentences++;
        quoted.computeIfAbsent(place, any -> new ArrayList<>()).add(words);
        boolean stands = sections.isEmpty() || sections.getOrDefault(place, "").contains(words);
        checks.due(sentence + "stands in the document", stands ? 1 : 0, 1);
    }

    private void lookAtTheLast() {
        if (sentences > 0) {
            checks.due(sentence + "has answers", answers > 0 ? 1 : 0, 1);
        }
    }

    void due(String call, long got, long want) {
        answers++;
        checks.due(sentence + call, got, want);
    }

    /** Each value of a range has its answer, and each one outside has the error. */
    void range(String call, IntUnaryOperator answer, int low, int high, IntUnaryOperator want, int error) {
        for (int value = low; value <= high; value++) {
            due(call + " of " + value, answer.applyAsInt(value), want.applyAsInt(value));
        }
        outside(call, answer, low, high, error);
    }

    void range(String call, IntUnaryOperator answer, int low, int high, int want, int error) {
        range(call, answer, low, high, any -> want, error);
    }

    void outside(String call, IntUnaryOperator answer, int low, int high, int error) {
        int[] values = {low - 1, high + 1, low - 1000, high + 1000, Integer.MIN_VALUE, Integer.MAX_VALUE};
        for (int value : values) {
            due(call + " of " + value, answer.applyAsInt(value), error);
        }
    }

    /** Looks whether each piece of the promises and of the terms has been named. */
    private void lookForMissing() {
        for (Map.Entry<String, String> section : sections.entrySet()) {
            String place = section.getKey();
            if (place.matches("Promise \\d+|[A-Z]+(, [A-Z]+)*")) {
                for (String piece : piecesOf(section.getValue())) {
                    checks.due("named: " + place + " \"" + piece + "\"", isNamed(place, piece) ? 1 : 0, 1);
                }
            }
        }
    }

    private boolean isNamed(String place, String piece) {
        for (String quote : quoted.getOrDefault(place, List.of())) {
            String words = quote.replaceAll("[.;,]$", "");
            if (words.contains(piece) || piece.contains(words)) {
                return true;
            }
        }
        return false;
    }

    private static List<String> piecesOf(String section) {
        List<String> pieces = new ArrayList<>();
        for (String line : section.split("\n")) {
            String bare = line.replaceAll("^`(int )?\\w+\\([^)]*\\)`: ", "").replaceAll("^- |^The constants: ", "");
            if (bare.startsWith("Ahead of the calls")) {
                continue;
            }
            String between = bare.startsWith("Returns") ? "; " : bare.startsWith("`") ? ", (?=\\d)" : "(?<=\\.) |; ";
            for (String piece : bare.split(between)) {
                if (!piece.isBlank()) {
                    pieces.add(piece.replaceAll("^Returns ", "").replaceAll("\\.$", ""));
                }
            }
        }
        return pieces;
    }

    void end(String test) {
        lookAtTheLast();
        lookForMissing();
        System.out.println(test + ": " + sentences + " sentences");
        checks.end(test);
    }
}
