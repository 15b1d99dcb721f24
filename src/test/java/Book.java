import java.io.IOException;
import java.util.LinkedHashMap;
import java.util.Map;

/**
 * The document, section by section, and which of its words the tests quote: a quote that does not stand there
 * is told as wrong, and so are words of what it is, its terms and its promises that no test quotes.
 */
final class Book {
    private final Due due;
    private final Map<String, StringBuilder> unquoted = new LinkedHashMap<>();
    private final Map<String, String> sections = new LinkedHashMap<>();
    private int quotes;

    Book(Due due) throws IOException {
        this.due = due;
        Pages.document().ifPresent(document -> document.sections().forEach((heading, lines) -> {
            String text = lines.replaceAll("\\s+", " ").trim();
            sections.put(heading, text);
            unquoted.put(heading, new StringBuilder(text));
        }));
    }

    Sentence sentence(String section, String words) {
        quotes++;
        if (!sections.isEmpty()) {
            quote(section, words);
        }
        return new Sentence(due, section + ", \"" + words + "\"");
    }

    private void quote(String section, String words) {
        int from = sections.getOrDefault(section, "").indexOf(words);
        due.is("\"" + words + "\" stands in the document under \"" + section + "\"", from >= 0, true);
        if (from >= 0) {
            unquoted.get(section).replace(from, from + words.length(), " ".repeat(words.length()));
        }
    }

    /** The first line of a promise's section is its declaration, which FaceTest looks at. */
    void end() {
        System.out.println(quotes + " tests, each of a sentence that it quotes");
        unquoted.forEach((section, left) -> {
            if (section.equals("What it is") || section.equals("Terms") || section.startsWith("Promise")) {
                String words = left.toString().replaceFirst("^`[^`]*`:", "").trim();
                due.text("what no test quotes of \"" + section + "\"", words, "");
            }
        });
    }
}
