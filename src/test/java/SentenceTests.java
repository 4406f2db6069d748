import java.nio.charset.StandardCharsets;
import java.nio.file.Files;
import java.nio.file.Path;
import java.util.ArrayList;
import java.util.LinkedHashMap;
import java.util.List;
import java.util.Map;

/**
 * The words that the tests of Edge quote stand in the document where they say, and no sentence of
 * the document is without a test. What stands behind "Returns" is taken part by part.
 */
final class SentenceTests {
    /** Beginnings of what an edge cannot test; RuleTests look at the types, the face and its headings. */
    private static final String[] UNTESTED = {"Vans of a cold chain: zones", "All numbers are whole",
        "Temperatures are told in tenths", "Ahead of the calls `addVan`", "Ahead of the calls `loadPallet`",
        "Ahead of the calls `appendCharacter`", "Ahead of the calls `count`"};

    private SentenceTests() {
    }

    static void run(String document) {
        Checks.test("the edges quote the document", () -> quoted(document));
        Checks.test("each sentence of the document has a test of its edges", () -> covered(document));
    }

    private static void quoted(String document) throws Exception {
        Map<String, List<String>> places = places(document);
        Checks.isTrue("tests quote", Edge.QUOTES.size() > 100);
        for (String[] quote : Edge.QUOTES) {
            String text = String.join(" ", places.getOrDefault(quote[0], List.of()));
            Checks.isTrue(quote[0] + " says: " + quote[1], text.contains(quote[1]));
        }
    }

    private static void covered(String document) throws Exception {
        int sentences = 0;
        for (Map.Entry<String, List<String>> place : places(document).entrySet()) {
            for (String line : place.getValue()) {
                for (String sentence : sentences(line)) {
                    sentences++;
                    Checks.isTrue(place.getKey() + " has a test of: " + sentence, isCovered(place.getKey(), sentence));
                }
            }
        }
        Checks.isTrue("sentences: " + sentences, sentences > 150);
    }

    private static boolean isCovered(String place, String sentence) {
        for (String beginning : UNTESTED) {
            if (sentence.startsWith(beginning)) {
                return true;
            }
        }
        for (String[] quote : Edge.QUOTES) {
            if (quote[0].equals(place) && (sentence.contains(quote[1]) || quote[1].contains(sentence))) {
                return true;
            }
        }
        return false;
    }

    /** The lines of each section: of the terms by their headings, of the promises by their numbers. */
    private static Map<String, List<String>> places(String document) throws Exception {
        Map<String, List<String>> places = new LinkedHashMap<>();
        String place = "";
        for (String line : Files.readAllLines(Path.of(document), StandardCharsets.UTF_8)) {
            if (line.startsWith("#")) {
                place = line.replaceFirst("^#+ ", "").replaceFirst("^(Promise \\d+):.*", "$1");
            } else if (!line.isBlank() && !place.equals("The public face") && !place.equals("Not promised")) {
                places.computeIfAbsent(place, key -> new ArrayList<>()).add(line.replaceFirst("^- ", ""));
            }
        }
        return places;
    }

    private static List<String> sentences(String line) {
        List<String> sentences = new ArrayList<>();
        // Ahead of a promise stands its signature, which RuleTests look at.
        String text = line.replaceFirst("^`(int )?\\w+\\([^`]*\\)`: ", "");
        for (String sentence : text.split("(?<=[.])\\s+(?=[A-Z(\"])")) {
            String[] parts = sentence.startsWith("Returns") ? sentence.split("; ") : new String[] {sentence};
            for (String part : parts) {
                sentences.add(part.replaceFirst("[.:]$", ""));
            }
        }
        return sentences;
    }
}
