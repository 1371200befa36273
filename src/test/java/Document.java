import java.io.IOException;
import java.nio.file.Files;
import java.nio.file.Path;
import java.util.Map;
import java.util.TreeMap;

/** The document by its places: "Promise 1" to "Promise 34", "Terms I" to "Terms IV", and "Head" for what else there is. */
final class Document {
    private static final Path FILE = Path.of("../shared/DOC.md");

    private final Map<String, String> places = new TreeMap<>();
    /** The places once more, with a stroke for each letter of a sentence that was struck out. */
    private final Map<String, StringBuilder> left = new TreeMap<>();

    Document() throws IOException {
        String place = "Head";
        for (String line : Files.readAllLines(FILE)) {
            place = placeFrom(line, place);
            places.merge(place, line.trim(), (ahead, more) -> ahead + " " + more);
        }
        places.replaceAll((at, text) -> text.replaceAll("\\s+", " "));
        places.forEach((at, text) -> left.put(at, new StringBuilder(text)));
    }

    private static String placeFrom(String line, String ahead) {
        if (line.startsWith("## Promise ")) {
            return line.substring(3, line.indexOf(':'));
        }
        if (line.matches("I{1,3}V?\\. .*")) {
            return "Terms " + line.substring(0, line.indexOf('.'));
        }
        return line.startsWith("## ") || line.startsWith("The constants") ? "Head" : ahead;
    }

    boolean says(String place, String text) {
        return places.getOrDefault(place, "").contains(text);
    }

    /** Every place but the head, which names no boundary beside that of the calls. */
    Iterable<String> placesOfPromises() {
        return places.keySet().stream().filter(place -> !place.equals("Head")).toList();
    }

    /** Every place where the text stands has a test now. */
    void strikeOut(String place, String text) {
        String all = places.getOrDefault(place, "");
        for (int at = all.indexOf(text); at >= 0; at = all.indexOf(text, at + 1)) {
            left.get(place).replace(at, at + text.length(), "|".repeat(text.length()));
        }
    }

    /** The words not struck out, without headings, the face's lines, and the signs between sentences. */
    String leftOf(String place) {
        return left.get(place).toString()
            .replaceAll("## Promise \\d+: [\\w ]+", "")
            .replaceAll("`[^`|]*\\)`:", "")
            .replaceAll("^[IV]+\\. ", "")
            .replaceAll("```(text)?", "")
            .replaceAll("[|.,:;()\\s]+", " ").trim();
    }
}
