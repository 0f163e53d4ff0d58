import java.io.IOException;
import java.nio.file.Files;
import java.nio.file.Path;
import java.util.ArrayList;
import java.util.LinkedHashMap;
import java.util.List;
import java.util.Map;

/** The document's words, heading by heading, on one line each. */
final class Document {
    private final Map<String, String> parts = new LinkedHashMap<>();

    Document(Path file) throws IOException {
        String heading = "";
        for (String line : Files.readAllLines(file)) {
            if (line.startsWith("#")) {
                heading = line.replaceFirst("^#+ *", "").replaceFirst("^(Promise \\d+):.*", "$1");
            } else if (!line.isBlank() && !line.startsWith("```")) {
                String words = line.trim().replaceAll("\\s+", " ");
                parts.merge(heading, words, (before, more) -> before + " " + more);
            }
        }
    }

    boolean has(Sentences.Quote quote) {
        return parts.getOrDefault(quote.heading(), "").contains(quote.words());
    }

    /** The words under the terms and the promises that no quote has; the line of code of a promise is none. */
    List<String> withoutQuote(List<Sentences.Quote> quotes) {
        List<String> missing = new ArrayList<>();
        for (Map.Entry<String, String> part : parts.entrySet()) {
            String heading = part.getKey();
            if (heading.equals("What it is") || heading.equals("Terms") || heading.startsWith("Promise ")) {
                String left = withoutQuotes(heading, part.getValue(), quotes).replaceAll("`[^`]*`", "");
                addWords(missing, heading, left);
            }
        }
        return missing;
    }

    /** The text with a line end for each letter that stands in a quote. */
    private static String withoutQuotes(String heading, String text, List<Sentences.Quote> quotes) {
        StringBuilder left = new StringBuilder(text);
        for (Sentences.Quote quote : quotes) {
            int at = quote.heading().equals(heading) ? text.indexOf(quote.words()) : -1;
            for (int i = 0; at >= 0 && i < quote.words().length(); i++) {
                left.setCharAt(at + i, '\n');
            }
        }
        return left.toString();
    }

    private static void addWords(List<String> missing, String heading, String left) {
        for (String stretch : left.split("\n+")) {
            if (stretch.matches(".*\\w.*") && !stretch.matches("[ ,;]*and[ ,;]*")) {
                missing.add(heading + ": " + stretch.trim());
            }
        }
    }
}
