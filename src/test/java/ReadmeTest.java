import java.io.IOException;
import java.lang.reflect.Method;
import java.lang.reflect.Modifier;
import java.nio.file.Files;
import java.nio.file.Path;
import java.util.ArrayList;
import java.util.Arrays;
import java.util.List;
import java.util.regex.Matcher;
import java.util.regex.Pattern;
import java.util.stream.Stream;

/** What README.md says: its example, its list of calls, its list of tests, and the command that runs all tests. */
public final class ReadmeTest {
    private static final String PROGRAM = "src/main/java/FindingAid.java";
    private static final Pattern BLOCK = Pattern.compile("(?ms)^```(\\w+)\n(.*?)^```$");
    private static final Pattern ROW = Pattern.compile("(?m)^\\| ([^|]*) \\| ([^|]*) \\|$");
    private static final List<String> OWN = List.of("FirstTest", "LastTest");
    private static final List<String> SHARED = List.of("FirstRuns", "LastRuns");

    private final String readme;
    private final List<String> languages = new ArrayList<>();
    private final List<String> blocks = new ArrayList<>();

    private ReadmeTest() throws IOException {
        readme = Files.readString(Path.of("README.md"));
        Matcher matcher = BLOCK.matcher(readme);
        while (matcher.find()) {
            languages.add(matcher.group(1));
            blocks.add(matcher.group(2));
        }
    }

    public static void main(String[] args) throws IOException, InterruptedException {
        ReadmeTest test = new ReadmeTest();
        if (test.languages.equals(List.of("java", "sh", "text", "sh"))) {
            test.exampleDoesWhatIsSaidOfIt();
            test.commandRunsAllTests();
        } else {
            Check.fail("the blocks of README.md are of " + test.languages);
        }
        test.callsAreThoseOfTheFace();
        test.testsAreThoseOfTheProject();
        Check.end();
    }

    private void exampleDoesWhatIsSaidOfIt() throws IOException, InterruptedException {
        Scratch scratch = new Scratch().copy(PROGRAM).write("MyProgram.java", blocks.get(0)).start(blocks.get(1));
        Check.same("what the example prints", String.join("\n", scratch.lines()) + "\n", blocks.get(2));
        Check.same("the exit code of the example", scratch.exitCode(), 0);
        scratch.delete();
    }

    /** The projects of this test are small: each test of theirs prints its name, and one of them may fail. */
    private void commandRunsAllTests() throws IOException, InterruptedException {
        List<String> wrong = new ArrayList<>(List.of(""));
        wrong.addAll(OWN);
        wrong.addAll(SHARED);
        List<Scratch> projects = new ArrayList<>();
        for (String name : wrong) {
            projects.add(project(name).start(blocks.get(3)));
        }
        List<String> due = new ArrayList<>(OWN);
        due.addAll(SHARED);
        for (int i = 0; i < wrong.size(); i++) {
            String name = wrong.get(i);
            String what = name.isEmpty() ? "a project without a wrong test" : "a project with a wrong " + name;
            List<String> run = projects.get(i).lines().stream().filter(due::contains).sorted().toList();
            Check.same("the tests that run in " + what, String.join(" ", run), String.join(" ", sorted(due)));
            Check.same("the exit code of " + what, projects.get(i).exitCode() == 0 ? 0 : 1, name.isEmpty() ? 0 : 1);
            projects.get(i).delete();
        }
    }

    private static Scratch project(String wrong) throws IOException {
        Scratch project = new Scratch().copy(".ci/run").write(PROGRAM, "public final class FindingAid { }\n")
            .write("src/test/java/Helper.java", "final class Helper { }\n");
        for (String name : OWN) {
            project.write("src/test/java/" + name + ".java", small(name, name.equals(wrong)));
        }
        for (String name : SHARED) {
            project.write("../shared/tests/" + name + ".java", small(name, name.equals(wrong)));
        }
        return project;
    }

    private static String small(String name, boolean isWrong) {
        return "public final class " + name + " {\n    public static void main(String[] args) {\n"
            + "        new FindingAid();\n        System.out.println(\"" + name + "\");\n"
            + (isWrong ? "        System.exit(1);\n" : "") + "    }\n}\n";
    }

    private static List<String> sorted(List<String> names) {
        return names.stream().sorted().toList();
    }

    private void callsAreThoseOfTheFace() {
        List<String> face = Arrays.stream(FindingAid.class.getDeclaredMethods())
            .filter(method -> Modifier.isPublic(method.getModifiers())).map(Method::getName).sorted().toList();
        List<String> told = new ArrayList<>();
        for (String cell : column("about", 2)) {
            told.addAll(List.of(cell.replace("`", "").split(", ")));
        }
        Check.same("the calls that are told", String.join(" ", sorted(told)), String.join(" ", face));
    }

    private void testsAreThoseOfTheProject() throws IOException {
        List<String> told = new ArrayList<>();
        for (String cell : column("test", 1)) {
            told.addAll(List.of(cell.split(", ")));
        }
        try (Stream<Path> all = Files.list(Path.of("src/test/java"))) {
            List<String> tests = all.map(path -> path.getFileName().toString())
                .filter(name -> name.endsWith("Test.java")).map(name -> name.replace(".java", "")).sorted().toList();
            Check.same("the tests that are told", String.join(" ", sorted(told)), String.join(" ", tests));
        }
        for (String helper : List.of("Check", "Make", "Look", "Twins", "Model", "Scratch")) {
            boolean isTold = readme.contains("`" + helper + "`");
            boolean isThere = Files.exists(Path.of("src/test/java/" + helper + ".java"));
            Check.same(helper + " is there, and told", isTold && isThere ? 1 : 0, 1);
        }
    }

    /** The cells below a head of a table, in the column with this number. */
    private List<String> column(String head, int number) {
        List<String> cells = new ArrayList<>();
        String table = readme.substring(Math.max(0, readme.indexOf("| " + head + " |")));
        int end = table.indexOf("\n\n");
        Matcher matcher = ROW.matcher(end < 0 ? table : table.substring(0, end));
        while (matcher.find()) {
            cells.add(matcher.group(number));
        }
        return cells.subList(Math.min(2, cells.size()), cells.size());
    }
}
