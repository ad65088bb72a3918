import java.io.IOException;
import java.nio.file.Files;
import java.nio.file.Path;
import java.util.LinkedHashMap;
import java.util.Map;

/** ../shared/DOC.md cut into the places that Holds names; blanks and line ends count as one blank. */
final class Document {
    private static final Path PATH = Path.of("../shared/DOC.md");

    private final Map<String, String> places = new LinkedHashMap<>();

    private Document(String text) {
        for (String part : text.split("(?m)^## ")) {
            int end = part.indexOf('\n');
            String head = end < 0 ? part : part.substring(0, end);
            String body = flat(part.substring(Math.max(end, 0)));
            if (head.equals("Terms")) {
                cutTerms(body);
            } else {
                places.put(head.replaceAll(":.*", "").trim(), body);
            }
        }
    }

    /** Null where the tests run without the document. */
    static Document read() throws IOException {
        return Files.exists(PATH) ? new Document(Files.readString(PATH)) : null;
    }

    private static String flat(String text) {
        return text.replaceAll("\\s+", " ");
    }

    private void cutTerms(String body) {
        int second = body.indexOf("II. WARPS");
        int third = body.indexOf("III. AHEAD");
        int constants = body.indexOf("The constants:");
        places.put("Terms I", body.substring(0, second));
        places.put("Terms II", body.substring(second, third));
        places.put("Terms III", body.substring(third, constants));
        places.put("Constants", body.substring(constants));
    }

    Map<String, String> places() {
        return places;
    }

    boolean says(String place, String sentence) {
        return places.getOrDefault(place, "").contains(flat(sentence));
    }
}
