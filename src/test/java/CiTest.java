import java.io.IOException;
import java.nio.file.Files;
import java.nio.file.Path;
import java.util.ArrayList;
import java.util.LinkedHashMap;
import java.util.List;
import java.util.Map;
import java.util.concurrent.ExecutionException;
import java.util.concurrent.ExecutorService;
import java.util.concurrent.Executors;
import java.util.concurrent.Future;

/** The script .ci/run fails if a test fails, and passes if none does; seen by small projects that it is put into. */
public final class CiTest {
    private static final String CLASS = "src/main/java/HutLoaves.java";
    private static final String OWN = "src/test/java/";
    private static final String SHARED = "../shared/tests/";
    private static final String GOOD = "public final class NAME { public static void main(String[] args) { } }";
    private static final String EXITS = GOOD.replace("{ }", "{ System.exit(1); }");
    private static final String THROWS = GOOD.replace("{ }", "{ throw new IllegalStateException(); }");
    private static final String MAKES_A_HUT = GOOD.replace("{ }", "{ new HutLoaves(); }");
    private static final String LOOKS_AT_FILES = GOOD.replace("{ }", "{ if (!args[0].endsWith(\"" + CLASS + "\")"
        + " || !args[1].endsWith(\"/DOC.md\") || !new java.io.File(args[0]).isFile()"
        + " || !new java.io.File(args[1]).isFile()) { System.exit(1); } }");
    private static final String NO_JAVA = "public final class NAME {";
    private static final int AT_ONCE = 4;

    private final Path root;
    private final ExecutorService workers = Executors.newFixedThreadPool(AT_ONCE);
    private final List<Project> projects = new ArrayList<>();

    public static void main(String[] args) throws Exception {
        if (args.length < 2) {
            Checks.due("arguments: the paths of the class and of the document", args.length, 2);
            Checks.finish(CiTest.class);
        }
        CiTest test = new CiTest(Scratch.rootOf(args[0]));
        test.passing();
        test.failing();
        test.workers.shutdown();
        for (Project project : test.projects) {
            project.look();
        }
        Checks.finish(CiTest.class);
    }

    private CiTest(Path root) {
        this.root = root;
    }

    private void passing() {
        new Project("two tests").due(0, "2 passed, 0 failed");
        new Project("more tests")
            .with(OWN + "Other.java", EXITS)
            .with(OWN + "MoreTest.java", LOOKS_AT_FILES)
            .with(SHARED + "MakesAHutRuns.java", MAKES_A_HUT)
            .with(SHARED + "more/MoreRuns.java", GOOD)
            .due(0, "5 passed, 0 failed");
    }

    private void failing() {
        new Project("a test of the project that ends with 1").with(OWN + "OwnTest.java", EXITS)
            .due(1, "FAILED: OwnTest", "1 passed, 1 failed");
        new Project("a shared test that ends with 1").with(SHARED + "SharedRuns.java", EXITS)
            .due(1, "FAILED: SharedRuns", "1 passed, 1 failed");
        new Project("tests about one that passes")
            .with(OWN + "AheadTest.java", EXITS)
            .with(OWN + "PastTest.java", THROWS)
            .with(SHARED + "AheadRuns.java", THROWS)
            .with(SHARED + "TheLastRuns.java", EXITS)
            .with(SHARED + "more/MoreRuns.java", EXITS)
            .due(1, "FAILED: AheadTest", "FAILED: PastTest", "FAILED: AheadRuns", "FAILED: TheLastRuns",
                "FAILED: MoreRuns", "2 passed, 5 failed");
        new Project("a test of the project that is no Java").with(OWN + "OwnTest.java", NO_JAVA)
            .due(1, "FAILED to compile the project's tests", "1 passed, 1 failed");
        new Project("a shared test that is no Java").with(SHARED + "SharedRuns.java", NO_JAVA)
            .due(1, "FAILED to compile: " + SHARED + "SharedRuns.java", "1 passed, 1 failed");
        new Project("a class that is no Java").with(CLASS, NO_JAVA).due(1, "0 passed, 2 failed");
        new Project("no test of the project").with(OWN + "OwnTest.java", null)
            .due(1, "FAILED: no test under src/test/java");
        new Project("no shared test").with(SHARED + "SharedRuns.java", null)
            .due(1, "no test under ../shared/tests");
    }

    /** A class, a test of the project and a shared one, but for what is put in their place. */
    private final class Project {
        private final String what;
        private final Map<String, String> texts = new LinkedHashMap<>();
        private int exit;
        private String[] lines;
        private Future<Scratch.Answer> answer;

        Project(String what) {
            this.what = what;
            for (String file : new String[] {CLASS, OWN + "OwnTest.java", SHARED + "SharedRuns.java"}) {
                texts.put(file, GOOD);
            }
        }

        Project with(String file, String text) {
            texts.put(file, text);
            return this;
        }

        /** Some are run at once, as each of them starts a machine four times or more. */
        void due(int exitCode, String... dueLines) {
            exit = exitCode;
            lines = dueLines;
            projects.add(this);
            answer = workers.submit(this::run);
        }

        private Scratch.Answer run() throws IOException, InterruptedException {
            Scratch scratch = new Scratch();
            try {
                scratch.copy(root.resolve(".ci"), scratch.project.resolve(".ci"));
                scratch.write(scratch.shared.resolve("DOC.md"), "");
                Files.createDirectories(scratch.shared.resolve("tests"));
                Files.createDirectories(scratch.project.resolve(OWN));
                for (Map.Entry<String, String> e : texts.entrySet()) {
                    Path path = scratch.project.resolve(e.getKey()).normalize();
                    String name = path.getFileName().toString().replace(".java", "");
                    if (e.getValue() != null) {
                        scratch.write(path, e.getValue().replace("NAME", name));
                    }
                }
                return scratch.run("bash .ci/run");
            } finally {
                scratch.delete();
            }
        }

        void look() throws InterruptedException, ExecutionException {
            Scratch.Answer got = answer.get();
            Checks.due(what + ": exit code", got.exit, exit);
            for (String line : lines) {
                Checks.due(what + ": lines \"" + line + "\" in " + got.lines, got.lines.contains(line) ? 1 : 0, 1);
            }
        }
    }
}
