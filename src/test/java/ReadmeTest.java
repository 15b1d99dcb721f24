import java.io.IOException;
import java.nio.file.Files;
import java.nio.file.Path;
import java.util.ArrayList;
import java.util.List;
import java.util.Optional;
import java.util.Set;
import java.util.TreeSet;
import java.util.regex.Matcher;
import java.util.regex.Pattern;
import java.util.stream.Stream;

/** README.md: its example answers as it says, its commands do what it says, and its tables name what is there. */
public final class ReadmeTest {
    private static final String USE = "How to use it";
    private static final String RUN = "How to run the tests";
    private static final String MAIN = "src/main/java/IdentityIssuer.java";
    private static final Path TESTS = Path.of("src/test/java");
    /** A call whose answer is printed, and behind it the answer and, after a colon, words about it. */
    private static final Pattern ANSWERED = Pattern.compile("System\\.out\\.println\\((.*)\\); +// (-?\\w+)(: .*)?");

    private final Due due = new Due();
    private final Pages readme = Pages.readme();
    private final Optional<Pages> document = Pages.document();

    private ReadmeTest() throws IOException {
    }

    public static void main(String[] args) throws IOException, InterruptedException {
        ReadmeTest test = new ReadmeTest();
        test.example();
        test.callsAreCounted();
        test.callsOfTheExample();
        test.tableOfCalls();
        test.tableOfAnswers();
        test.tableOfTests();
        test.allSources();
        test.oneTest();
        test.due.end();
    }

    private List<String> exampleLines() {
        return readme.blocks(USE, "java").get(0);
    }

    private String commands(String heading, int block) {
        return String.join(" && ", readme.blocks(heading, "sh").get(block));
    }

    private void example() throws IOException, InterruptedException {
        List<String> calls = new ArrayList<>();
        List<String> answers = new ArrayList<>();
        for (String line : exampleLines()) {
            Matcher answered = ANSWERED.matcher(line.trim());
            due.is("an answer stands behind each printed call: " + line, answered.matches(), line.contains("println"));
            if (answered.matches()) {
                calls.add(answered.group(1));
                answers.add(answered.group(2));
            }
        }
        Workplace place = new Workplace();
        place.copy(MAIN, MAIN);
        place.write("Example.java", String.join("\n", exampleLines()));
        place.start("", "sh", "-c", commands(USE, 0));
        Workplace.Outcome outcome = place.end();
        due.is("exit code of the example (" + outcome.errors() + ")", outcome.exitCode(), 0);
        due.is("lines that the example prints: " + outcome.lines(), outcome.lines().size(), answers.size());
        for (int i = 0; i < Math.min(answers.size(), outcome.lines().size()); i++) {
            due.text("the example's " + calls.get(i), outcome.lines().get(i), answers.get(i));
        }
    }

    /** The example once more, with objects that count their calls and throw behind the 512th. */
    private void callsAreCounted() throws IOException, InterruptedException {
        Workplace place = new Workplace();
        place.copy(MAIN, MAIN);
        place.copy("src/test/java/Issuer.java", "Issuer.java");
        place.write("Example.java", String.join("\n", exampleLines()).replaceAll("IdentityIssuer(?= x|\\()", "Issuer"));
        place.start("", "sh", "-c", commands(USE, 0));
        Workplace.Outcome outcome = place.end();
        due.is("exit code when the example's calls are counted (" + outcome.errors() + ")", outcome.exitCode(), 0);
    }

    /** The members of the face: name(parameter, ..). */
    private static List<String> face() {
        List<String> face = new ArrayList<>();
        for (String line : FaceTest.DECLARED) {
            Matcher member = Pattern.compile("public .*?(\\w+\\(.*\\));").matcher(line);
            if (member.find()) {
                face.add(member.group(1).replaceAll("(int|boolean) ", ""));
            }
        }
        return face;
    }

    private void callsOfTheExample() {
        String example = String.join("\n", exampleLines());
        for (String member : face()) {
            String name = member.substring(0, member.indexOf('('));
            due.is("the example has " + name, Pattern.compile("(new |x\\.)" + name + "\\(").matcher(example).find(), true);
        }
    }

    private void tableOfCalls() {
        List<String> calls = readme.rows(USE).stream().map(row -> row.get(0)).filter(cell -> cell.contains("(")).toList();
        due.text("the table of calls", calls.toString(), face().toString());
    }

    private void tableOfAnswers() {
        List<String> answers = new ArrayList<>();
        for (List<String> row : readme.rows(USE)) {
            if (row.get(0).matches("[A-Z]+")) {
                String why = row.get(2).substring(0, 1).toUpperCase() + row.get(2).substring(1);
                answers.add("`" + row.get(0) + " = " + row.get(1) + "`: " + why + ".");
            }
        }
        due.is("constants in README.md", answers.size(), 7);
        document.ifPresent(pages -> answers.forEach(answer ->
            due.is("the document has " + answer, pages.section("Terms").contains(answer), true)));
    }

    private void tableOfTests() throws IOException {
        Set<String> named = new TreeSet<>();
        Set<String> promises = new TreeSet<>();
        for (List<String> row : readme.rows(RUN)) {
            named.add(row.get(0));
            Matcher promise = Pattern.compile("(\\d+) \\(([^)]*)\\)").matcher(row.get(1));
            while (promise.find()) {
                promises.add("Promise " + promise.group(1) + ": " + promise.group(2));
            }
        }
        Set<String> there = new TreeSet<>(sources());
        there.removeIf(name -> !name.endsWith("Test"));
        due.text("the table of tests", named.toString(), there.toString());
        document.ifPresent(pages -> {
            Set<String> made = new TreeSet<>(pages.sections().keySet());
            made.removeIf(heading -> !heading.startsWith("Promise "));
            due.text("the promises in the table of tests", promises.toString(), made.toString());
        });
    }

    private static List<String> sources() throws IOException {
        try (Stream<Path> files = Files.list(TESTS)) {
            return files.map(file -> file.getFileName().toString().replace(".java", "")).toList();
        }
    }

    private void allSources() throws IOException {
        for (String name : sources()) {
            boolean told = name.endsWith("Edges") || readme.section(RUN).contains("`" + name + "`");
            due.is("README.md tells of " + name, told, true);
        }
    }

    /** The test alone, with the class as it is and with one that is broken. */
    private void oneTest() throws IOException, InterruptedException {
        String command = commands(RUN, 1);
        Workplace whole = new Workplace();
        Workplace broken = new Workplace();
        for (Workplace place : List.of(whole, broken)) {
            place.copy("src", "src");
        }
        String source = Files.readString(Path.of(MAIN));
        due.is("the class has a constant to break", source.contains("MAX_TICK = 64;"), true);
        broken.write(MAIN, source.replace("MAX_TICK = 64;", "MAX_TICK = 63;"));
        whole.start("", "sh", "-c", command);
        broken.start("", "sh", "-c", command);
        Workplace.Outcome outcome = whole.end();
        due.is("exit code of " + command + " (" + outcome.errors() + ")", outcome.exitCode(), 0);
        outcome = broken.end();
        due.is("exit code of " + command + " for a broken class", outcome.exitCode(), 1);
        boolean told = outcome.lines().stream().anyMatch(line -> line.startsWith("tick(64) answered -1002, due is "));
        due.is("the wrong answer is told: " + outcome.lines(), told, true);
    }
}
