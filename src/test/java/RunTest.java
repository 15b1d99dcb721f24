import java.io.IOException;
import java.nio.file.Files;
import java.nio.file.Path;
import java.util.ArrayList;
import java.util.List;

/** What README.md says of .ci/run, in small projects of which each is run by a copy of it. */
public final class RunTest {
    private static final String RUN = "How to run the tests";
    private static final String MAIN = "project/src/main/java/IdentityIssuer.java";
    private static final String OWN = "project/src/test/java/";
    private static final String SHARED = "shared/tests/";
    private static final String BROKEN = "public final class {";

    /** A project, the exit code that is due and lines that are due among those that it prints. */
    private record Case(String name, Workplace place, int exitCode, String... lines) {
    }

    private final Due due = new Due();
    private final List<Case> cases = new ArrayList<>();
    private final String command = Pages.readme().blocks(RUN, "sh").get(0).get(0);

    private RunTest() throws IOException {
    }

    public static void main(String[] args) throws IOException, InterruptedException {
        RunTest test = new RunTest();
        test.words();
        test.passing();
        test.failing();
        test.notCompiled();
        test.nothingShared();
        test.runAll();
        test.due.end();
    }

    /** What the cases below show must be what README.md says. */
    private void words() throws IOException {
        String text = Pages.readme().section(RUN).replaceAll("\\s+", " ");
        String[] said = {"compiles the class with the tests under `src/test/java` and runs each `*Test`, then does so with "
            + "each test under `../shared/tests`.", "ends with the line `all tests passed` and exit code 0; or with exit "
            + "code 1 if one fails (each one that does is told by a line `FAILED:` and its name, and the others run all the "
            + "same), if something can't be compiled, or if there is no test under `../shared/tests`."};
        for (String words : said) {
            due.is("README.md says: " + words, text.contains(words), true);
        }
        due.is(command + " can be executed", Files.isExecutable(Path.of(command)), true);
        due.text("first line of " + command, Files.readAllLines(Path.of(command)).get(0), "#!/bin/sh");
    }

    /** A test that uses the class, says so and ends with this exit code. */
    private static String test(String name, int exitCode) {
        return "public final class " + name + " {\n"
            + "    public static void main(String[] args) {\n"
            + "        System.out.println(\"" + name + " runs with \" + new IdentityIssuer().number());\n"
            + "        System.exit(" + exitCode + ");\n"
            + "    }\n"
            + "}\n";
    }

    /** Two tests of its own, a helper that is no test, and two shared ones; all pass. */
    private Workplace project() throws IOException {
        Workplace place = projectAlone();
        place.write(OWN + "TwoTest.java", test("TwoTest", 0));
        place.write(OWN + "Helper.java", test("Helper", 1));
        place.write(SHARED + "Apart.java", test("Apart", 0));
        place.write(SHARED + "Beside.java", test("Beside", 0));
        return place;
    }

    private Workplace projectAlone() throws IOException {
        Workplace place = new Workplace();
        place.copy(command, "project/" + command);
        place.write(MAIN, "public final class IdentityIssuer {\n    public int number() {\n        return 7;\n    }\n}\n");
        place.write(OWN + "OneTest.java", test("OneTest", 0));
        return place;
    }

    private static String[] allAnd(String line) {
        return new String[] {"OneTest runs with 7", "TwoTest runs with 7", "Apart runs with 7", "Beside runs with 7", line};
    }

    private void passing() throws IOException {
        cases.add(new Case("all pass", project(), 0, allAnd("all tests passed")));
    }

    private void failing() throws IOException {
        for (String name : List.of("OneTest", "TwoTest", "Apart", "Beside")) {
            Workplace place = project();
            place.write((name.endsWith("Test") ? OWN : SHARED) + name + ".java", test(name, 1));
            cases.add(new Case(name + " fails", place, 1, allAnd("FAILED: " + name)));
        }
    }

    private void notCompiled() throws IOException {
        for (String file : List.of(MAIN, OWN + "TwoTest.java", SHARED + "Beside.java")) {
            Workplace place = project();
            place.write(file, BROKEN);
            cases.add(new Case(file + " can't be compiled", place, 1));
        }
    }

    private void nothingShared() throws IOException {
        cases.add(new Case("there is no ../shared", projectAlone(), 1, "OneTest runs with 7"));
        Workplace empty = projectAlone();
        empty.write(SHARED + "README.md", "No test.");
        cases.add(new Case("there is no test under ../shared/tests", empty, 1, "OneTest runs with 7"));
    }

    /** By sh and not as a program of its own: a directory for a while may be one that programs can't run in. */
    private void runAll() throws IOException, InterruptedException {
        for (Case one : cases) {
            one.place().start("project", "sh", command);
        }
        for (Case one : cases) {
            Workplace.Outcome outcome = one.place().end();
            due.is("exit code when " + one.name() + " (" + outcome.errors() + ")", outcome.exitCode(), one.exitCode());
            for (String line : one.lines()) {
                due.is("\"" + line + "\" is told when " + one.name(), outcome.lines().contains(line), true);
            }
            boolean passed = String.join("\n", outcome.lines()).endsWith("\nall tests passed");
            due.is("the last line tells that all passed when " + one.name(), passed, one.exitCode() == 0);
            due.is("the helper runs when " + one.name(), outcome.lines().contains("Helper runs with 7"), false);
        }
    }
}
