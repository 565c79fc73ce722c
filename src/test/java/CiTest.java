import java.io.IOException;
import java.nio.file.Files;
import java.nio.file.Path;
import java.util.ArrayList;
import java.util.List;
import java.util.concurrent.ExecutionException;
import java.util.concurrent.ExecutorService;
import java.util.concurrent.Executors;
import java.util.concurrent.Future;

/** The script .ci/run fails if a test fails, and passes if none does; seen by small projects of two tests each. */
public final class CiTest {
    private static final String CLASS = "src/main/java/HutLoaves.java";
    private static final String OWN = "src/test/java/OwnTest.java";
    private static final String SHARED = "../shared/tests/SharedRuns.java";
    private static final String GOOD = "public final class NAME { public static void main(String[] args) { } }";
    private static final String EXITS = GOOD.replace("{ }", "{ System.exit(1); }");
    private static final String THROWS = GOOD.replace("{ }", "{ throw new IllegalStateException(); }");
    private static final String NO_JAVA = "public final class NAME {";

    private static final int AT_ONCE = 4;

    private final Path root;
    private final ExecutorService workers = Executors.newFixedThreadPool(AT_ONCE);
    private final List<Case> cases = new ArrayList<>();

    public static void main(String[] args) throws Exception {
        if (args.length < 2) {
            Checks.due("arguments: the paths of the class and of the document", args.length, 2);
            Checks.finish(CiTest.class);
        }
        CiTest test = new CiTest(Scratch.rootOf(args[0]));
        test.startAll();
        for (Case started : test.cases) {
            started.look();
        }
        test.workers.shutdown();
        Checks.finish(CiTest.class);
    }

    /** A project whose tests are being run, and what is due of that. */
    private static final class Case {
        private final String what;
        private final int exit;
        private final String line;
        private final Future<Scratch.Answer> answer;

        Case(String what, int exit, String line, Future<Scratch.Answer> answer) {
            this.what = what;
            this.exit = exit;
            this.line = line;
            this.answer = answer;
        }

        void look() throws InterruptedException, ExecutionException {
            Scratch.Answer got = answer.get();
            Checks.due(what + ": exit code", got.exit, exit);
            Checks.due(what + ": lines " + line + " in " + got.lines, got.tells(line) ? 1 : 0, 1);
        }
    }

    private CiTest(Path root) {
        this.root = root;
    }

    private void startAll() {
        passes("two tests", 2);
        passes("a file of another name", 2, "src/test/java/Other.java", EXITS);
        passes("a test more of the project", 3, "src/test/java/MoreTest.java", GOOD);
        passes("a test more that is shared", 3, "../shared/tests/MoreRuns.java", GOOD);
        passes("a shared test in a folder of its own", 3, "../shared/tests/more/MoreRuns.java", GOOD);
        passes("a shared test that makes a hut", 2, SHARED, GOOD.replace("{ }", "{ new HutLoaves(); }"));
        passes("a test that looks at the files that it is told", 2, OWN, GOOD.replace("{ }",
            "{ if (!args[0].endsWith(\"" + CLASS + "\") || !new java.io.File(args[0]).isFile()"
                + " || !args[1].endsWith(\"DOC.md\") || !new java.io.File(args[1]).isFile()) System.exit(1); }"));

        fails("a test of the project that ends with 1", "FAILED: OwnTest", OWN, EXITS);
        fails("a test of the project that throws", "FAILED: OwnTest", OWN, THROWS);
        fails("the first of two tests of the project", "FAILED: AheadTest", "src/test/java/AheadTest.java", EXITS);
        fails("the last of two tests of the project", "FAILED: TheLastTest", "src/test/java/TheLastTest.java", EXITS);
        fails("a test of the project that is no Java", "FAILED to compile.*", OWN, NO_JAVA);
        fails("a file beside the tests that is no Java", "FAILED to compile.*", "src/test/java/Other.java", NO_JAVA);
        fails("no test of the project", "FAILED: no test under .*", OWN, null);
        fails("a shared test that ends with 1", "FAILED: SharedRuns", SHARED, EXITS);
        fails("a shared test that throws", "FAILED: SharedRuns", SHARED, THROWS);
        fails("a shared test that is no Java", "FAILED to compile: .*SharedRuns.java", SHARED, NO_JAVA);
        fails("the first of two shared tests", "FAILED: AheadRuns", "../shared/tests/AheadRuns.java", EXITS);
        fails("the last of two shared tests", "FAILED: TheLastRuns", "../shared/tests/TheLastRuns.java", EXITS);
        fails("a shared test in a folder of its own", "FAILED: MoreRuns", "../shared/tests/more/MoreRuns.java", EXITS);
        fails("no shared test", "no test under .*", SHARED, null);
        fails("a class that is no Java", "FAILED to compile.*", CLASS, NO_JAVA);
        fails("a class without what a test calls", "FAILED to compile.*", SHARED,
            GOOD.replace("{ }", "{ new HutLoaves().undo(); }"));
    }

    private void passes(String what, int tests, String... filesAndTexts) {
        start(what, 0, tests + " passed, 0 failed", filesAndTexts);
    }

    private void fails(String what, String line, String... filesAndTexts) {
        start(what, 1, line, filesAndTexts);
    }

    /** Some at once, as each of them starts a machine four times. */
    private void start(String what, int exit, String line, String... filesAndTexts) {
        cases.add(new Case(what, exit, line, workers.submit(() -> answerOf(filesAndTexts))));
    }

    private Scratch.Answer answerOf(String... filesAndTexts) throws IOException, InterruptedException {
        Scratch scratch = new Scratch();
        try {
            scratch.copy(root.resolve(".ci"), scratch.project.resolve(".ci"));
            scratch.write(scratch.shared.resolve("DOC.md"), "");
            for (String file : new String[] {CLASS, OWN, SHARED}) {
                put(scratch, file, GOOD);
            }
            for (int k = 0; k + 1 < filesAndTexts.length; k += 2) {
                put(scratch, filesAndTexts[k], filesAndTexts[k + 1]);
            }
            return scratch.run("bash .ci/run");
        } finally {
            scratch.delete();
        }
    }

    private static void put(Scratch scratch, String file, String text) throws IOException {
        Path path = scratch.project.resolve(file).normalize();
        if (text == null) {
            Files.delete(path);
        } else {
            scratch.write(path, text.replace("NAME", path.getFileName().toString().replace(".java", "")));
        }
    }
}
