import java.io.IOException;
import java.nio.file.Files;
import java.nio.file.Path;
import java.util.ArrayList;
import java.util.LinkedHashMap;
import java.util.List;
import java.util.Map;
import java.util.regex.Matcher;
import java.util.regex.Pattern;

/** A text in sections with headings, as the document and README.md are. */
final class Pages {
    static final Path DOCUMENT = Path.of("../shared/DOC.md");
    static final Path README = Path.of("README.md");

    private final Map<String, String> sections = new LinkedHashMap<>();

    Pages(Path file) throws IOException {
        for (String part : Files.readString(file).split("(?m)^## ")) {
            int end = part.indexOf('\n');
            sections.put(part.substring(0, end), part.substring(end + 1));
        }
    }

    Map<String, String> sections() {
        return sections;
    }

    String section(String heading) {
        return sections.getOrDefault(heading, "");
    }

    /** The lines of each block of code of this language under this heading. */
    List<List<String>> blocks(String heading, String language) {
        return all(heading, "(?ms)^```" + language + "\n(.*?)\n```$").stream().map(block -> block.lines().toList()).toList();
    }

    /** The rows of all tables under this heading whose first cell is code: the cells, without marks of code. */
    List<List<String>> rows(String heading) {
        return all(heading, "(?m)^\\| (`.*) \\|$").stream().map(row -> List.of(row.replace("`", "").split(" \\| ?"))).toList();
    }

    private List<String> all(String heading, String pattern) {
        List<String> found = new ArrayList<>();
        Matcher matcher = Pattern.compile(pattern).matcher(section(heading));
        while (matcher.find()) {
            found.add(matcher.group(1));
        }
        return found;
    }
}
