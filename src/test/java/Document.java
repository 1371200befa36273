import java.io.IOException;
import java.nio.file.Files;
import java.nio.file.Path;
import java.util.Map;
import java.util.TreeMap;

/** The document by its places: "Promise 1" to "Promise 34", "Terms I" to "Terms IV", and "Head" for what else there is. */
final class Document {
    private static final Path FILE = Path.of("../shared/DOC.md");

    private final Map<String, String> places = new TreeMap<>();

    Document() throws IOException {
        String place = "Head";
        for (String line : Files.readAllLines(FILE)) {
            place = placeFrom(line, place);
            places.merge(place, line.trim(), (ahead, more) -> ahead + " " + more);
        }
    }

    private static String placeFrom(String line, String ahead) {
        if (line.startsWith("## Promise ")) {
            return line.substring(3, line.indexOf(':'));
        }
        if (line.matches("I{1,3}V?\\. .*")) {
            return "Terms " + line.substring(0, line.indexOf('.'));
        }
        return line.startsWith("## ") || line.startsWith("The constants") ? "Head" : ahead;
    }

    boolean says(String place, String text) {
        return places.getOrDefault(place, "").replaceAll("\\s+", " ").contains(text);
    }

    /** Every place but the head, which names no boundary beside that of the calls. */
    Iterable<String> placesOfPromises() {
        return places.keySet().stream().filter(place -> !place.equals("Head")).toList();
    }
}
