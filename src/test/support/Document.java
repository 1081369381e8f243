import java.io.IOException;
import java.nio.file.Files;
import java.nio.file.Path;
import java.util.ArrayList;
import java.util.Arrays;
import java.util.LinkedHashMap;
import java.util.List;
import java.util.Map;

/** ../shared/DOC.md as parts: the paragraphs of its description, and its promises. */
final class Document {
    // "the station.", "Returns the number." and "Fills the line:" name no boundary of their own
    private static final String PLAIN = "(Returns )?(the|a|its) ([a-z]+ )?[a-z]+\\.|[A-Z][a-z ]+:";

    private final Map<String, String> parts = new LinkedHashMap<>();

    Document(Path path) throws IOException {
        for (String section : Files.readString(path).split("(?m)^## ")) {
            String title = section.lines().findFirst().orElse("").trim();
            String body = section.substring(section.indexOf('\n') + 1);
            if (title.equals("Description")) {
                addParagraphs(body);
            } else {
                parts.put(title.replaceFirst(":.*", ""), words(body));
            }
        }
    }

    private void addParagraphs(String body) {
        for (String paragraph : body.split("\n\\s*\n")) {
            String text = words(paragraph);
            int end = text.indexOf(". ");
            parts.put(end < 0 ? text : text.substring(0, end), end < 0 ? "" : text.substring(end + 2));
        }
    }

    /** The text without signatures, headings of the code and the names of parameters, in one line. */
    private static String words(String text) {
        return text.replaceAll("(?m)^`.*`$", "").replaceAll("(?m)^----.*$", "")
                .replaceAll("(?m)^- `\\w+`: (.*)$", "$1.").replaceAll("(?m)^(Throws .*)$", "$1.")
                .replace("`", "").replaceAll("\\s+", " ").trim();
    }

    boolean holds(String part, String quote) {
        return parts.getOrDefault(part, "").contains(quote);
    }

    /**
     * The sentences of a part, and the halves of those with a colon or a semicolon, that no quote
     * touches.
     */
    List<String> untouched(String part, List<String> quotes) {
        String text = parts.getOrDefault(part, "");
        boolean[] touched = new boolean[text.length()];
        for (String quote : quotes) {
            for (int at = text.indexOf(quote); at >= 0; at = text.indexOf(quote, at + 1)) {
                Arrays.fill(touched, at, at + quote.length(), true);
            }
        }
        List<String> list = new ArrayList<>();
        int start = 0;
        for (String sentence : text.split("(?<=[.;:]) ")) {
            boolean isTouched = false;
            for (int i = start; i < start + sentence.length(); i++) {
                isTouched |= touched[i];
            }
            if (!isTouched && !sentence.matches(PLAIN)) {
                list.add(sentence);
            }
            start += sentence.length() + 1;
        }
        return list;
    }
}
