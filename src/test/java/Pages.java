import java.io.IOException;
import java.nio.file.Files;
import java.nio.file.Path;
import java.util.ArrayList;
import java.util.LinkedHashMap;
import java.util.List;
import java.util.Map;
import java.util.Optional;
import java.util.regex.Matcher;
import java.util.regex.Pattern;

/** A text in sections with headings, as the document and README.md are. */
final class Pages {
    private static final Path DOCUMENT = Path.of("../shared/DOC.md");
    private static final Path README = Path.of("README.md");

    private final Map<String, String> sections = new LinkedHashMap<>();

    private Pages(String text) {
        for (String part : text.split("(?m)^## ")) {
            int end = part.indexOf('\n');
            sections.put(part.substring(0, end), part.substring(end + 1));
        }
    }

    static Pages readme() throws IOException {
        return new Pages(Files.readString(README));
    }

    /** Without it the class can be tested all the same, only not by the document's words. */
    static Optional<Pages> document() throws IOException {
        if (!Files.isReadable(DOCUMENT)) {
            System.out.println(DOCUMENT + " is not here: nothing is looked up in it");
            return Optional.empty();
        }
        return Optional.of(new Pages(Files.readString(DOCUMENT)));
    }

    Map<String, String> sections() {
        return sections;
    }

    String section(String heading) {
        return sections.getOrDefault(heading, "");
    }

    /** The lines of each block of code of this language under this heading. */
    List<List<String>> blocks(String heading, String language) {
        return all(heading, "(?ms)^```" + language + "\n(.*?)\n```$").stream().map(block -> block.lines().toList()).toList();
    }

    /** The rows of all tables under this heading whose first cell is code: the cells, without marks of code. */
    List<List<String>> rows(String heading) {
        return all(heading, "(?m)^\\| (`.*) \\|$").stream().map(row -> List.of(row.replace("`", "").split(" \\| ?"))).toList();
    }

    private List<String> all(String heading, String pattern) {
        List<String> found = new ArrayList<>();
        Matcher matcher = Pattern.compile(pattern).matcher(section(heading));
        while (matcher.find()) {
            found.add(matcher.group(1));
        }
        return found;
    }
}
