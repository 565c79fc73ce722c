import java.io.IOException;
import java.lang.reflect.Field;
import java.lang.reflect.Modifier;
import java.nio.file.Files;
import java.nio.file.Path;
import java.util.ArrayList;
import java.util.List;
import java.util.Locale;
import java.util.TreeMap;
import java.util.TreeSet;
import java.util.regex.Matcher;
import java.util.regex.Pattern;

/**
 * What README.md says of the use of the class and of the running of its tests is so: its examples are the files
 * that it names, its commands run in a copy of the project, and print what it says.
 */
public final class ReadmeTest {
    /** These run the copy's tests: there they would run themselves, without an end. */
    private static final String[] NOT_IN_THE_COPY = {"ReadmeTest.java", "CiTest.java"};
    private static final String EXAMPLES = "src/example/java";
    private static final String RUN_ALL = "bash .ci/run";
    /** Calls of which README.md tells what numbers mean, with the first and the last number. */
    private static final String[][] CALLS_WITH_NUMBERS = {{"set", "0", "3"}, {"muleOf", "0", "7"},
        {"groupOf", "0", "6"}, {"why", "1", "3"}, {"next", "0", "1"}, {"would", "0", "3"}, {"count", "0", "23"},
        {"fault", "0", "2"}};

    private final Path root;
    private final Path document;
    private final String source;
    private final String readme;
    private final List<String[]> blocks = new ArrayList<>();

    public static void main(String[] args) throws Exception {
        if (args.length < 2) {
            Checks.due("arguments: the paths of the class and of the document", args.length, 2);
            Checks.finish(ReadmeTest.class);
        }
        ReadmeTest test = new ReadmeTest(Path.of(args[0]), Path.of(args[1]));
        test.examplesAreFiles();
        test.callsAreThoseOfTheClass();
        test.numbersAreThoseOfTheDocument();
        test.errorsAreThoseOfTheClass();
        test.ordersDoWhatTheirCallsDo();
        test.testsAreNamed();
        test.commandsRun();
        Checks.finish(ReadmeTest.class);
    }

    private ReadmeTest(Path classFile, Path document) throws IOException {
        this.root = Scratch.rootOf(classFile.toString());
        this.document = document.toAbsolutePath();
        this.source = Files.readString(classFile);
        this.readme = Files.readString(root.resolve("README.md"));
        Matcher m = Pattern.compile("(?ms)^```(\\w*)\n(.*?)^```$").matcher(readme);
        while (m.find()) {
            blocks.add(new String[] {m.group(1), m.group(2)});
        }
    }

    private static void holds(String what, boolean so) {
        Checks.due(what, so ? 1 : 0, 1);
    }

    // ---- what can be read

    private void examplesAreFiles() throws IOException {
        TreeSet<String> shown = new TreeSet<>();
        for (String[] block : blocks) {
            if (block[0].equals("java")) {
                String file = EXAMPLES + "/" + nameOf(block[1]) + ".java";
                shown.add(file);
                holds("README.md names " + file, readme.contains("`" + file + "`"));
                holds("README.md shows " + file + " as it is",
                    block[1].equals(Files.readString(root.resolve(file))));
                holds("an answer beside each call that is printed in " + file,
                    dueLines(block[1]).size() == block[1].split("println").length - 1);
            } else {
                holds("a block that is run or looked at: " + block[0], block[0].matches("sh|text"));
            }
        }
        TreeSet<String> files = new TreeSet<>();
        for (Path file : Scratch.filesUnder(root.resolve(EXAMPLES))) {
            files.add(root.relativize(file).toString());
        }
        holds("examples of README.md " + shown + ", files " + files, shown.equals(files) && !files.isEmpty());
    }

    private static String nameOf(String program) {
        Matcher m = Pattern.compile("public final class (\\w+)").matcher(program);
        return m.find() ? m.group(1) : "";
    }

    /** What a program prints by its comments: each begins with the answer, and goes on after a colon. */
    private static List<String> dueLines(String program) {
        List<String> due = new ArrayList<>();
        Matcher m = Pattern.compile("System\\.out\\.println\\(.*\\); +// ([^: ]+): ").matcher(program);
        while (m.find()) {
            due.add(m.group(1));
        }
        return due;
    }

    private void callsAreThoseOfTheClass() {
        TreeSet<String> due = new TreeSet<>();
        Matcher m = Pattern.compile("(?m)^    public int (\\w+)\\((.*)\\) \\{$").matcher(source);
        while (m.find()) {
            due.add(m.group(1) + "(" + m.group(2).replace("int ", "") + ")");
        }
        TreeSet<String> told = new TreeSet<>(firstCells("The calls"));
        holds("calls that README.md tells " + told + ", due are " + due, told.equals(due) && due.size() == 24);
    }

    /** A number that README.md tells of a call has a word or more beside it, all of which the document has there. */
    private void numbersAreThoseOfTheDocument() throws IOException {
        String terms = Files.readString(document).replaceAll("(?s)## Promise .*", "");
        for (String[] call : CALLS_WITH_NUMBERS) {
            String told = textOf(call[0]).replaceAll(" \\([^)]*\\)", "");
            String due = call[0].equals("set") ? terms.replaceAll("(?s).*The settings are", "") : promiseOf(call[0]);
            int number = Integer.parseInt(call[1]);
            Matcher m = Pattern.compile("(?<=[:,] )(\\d+)(?: to (\\d+))? ([^,:]+)").matcher(told);
            while (m.find()) {
                Checks.due("a number of " + call[0], Integer.parseInt(m.group(1)), number);
                holds("words of " + call[0] + " " + m.group(), hasAllWords(due, m.group(1), m.group(3)));
                number = Integer.parseInt(m.group(2) == null ? m.group(1) : m.group(2)) + 1;
            }
            Checks.due("the last number of " + call[0], number - 1, Integer.parseInt(call[2]));
        }
    }

    private String textOf(String call) {
        Matcher m = Pattern.compile("(?m)^\\| `" + call + "\\([^`]*\\)` \\|(.*)\\|$").matcher(section("The calls"));
        return m.find() ? ": " + m.group(1).trim() : "";
    }

    private String promiseOf(String call) throws IOException {
        String text = Files.readString(document);
        Matcher m = Pattern.compile("(?ms)^## Promise \\d+: " + call + "\n(.*?)(^## |\\z)").matcher(text);
        return m.find() ? m.group(1) : "";
    }

    private static boolean hasAllWords(String document, String number, String words) {
        Matcher m = Pattern.compile("(?<![\\d-])" + number + "(?: to \\d+)?:? ([^;,\n]+)").matcher(document);
        while (m.find()) {
            String found = " " + m.group(1).replaceAll("[^\\w]+", " ") + " ";
            boolean all = true;
            for (String word : words.trim().split(" ")) {
                all = all && (word.length() < 4 || found.contains(" " + word + " "));
            }
            if (all) {
                return true;
            }
        }
        return false;
    }

    private void errorsAreThoseOfTheClass() throws IllegalAccessException, IOException {
        TreeMap<String, String> due = new TreeMap<>();
        for (Field field : HutLoaves.class.getFields()) {
            if (Modifier.isStatic(field.getModifiers())) {
                due.put(field.getName(), String.valueOf(field.getInt(null)));
            }
        }
        TreeMap<String, String> told = new TreeMap<>();
        String text = Files.readString(document).toLowerCase(Locale.ROOT);
        Matcher m = Pattern.compile("(?m)^\\| `(\\w+)` \\| (-\\d+) \\| (.*) \\|$").matcher(section("Errors"));
        while (m.find()) {
            told.put(m.group(1), m.group(2));
            String line = "`" + m.group(1) + " = " + m.group(2) + "`: " + m.group(3) + ".";
            holds(line + " stands in the document", text.contains(line.toLowerCase(Locale.ROOT)));
        }
        holds("errors that README.md tells " + told + ", due are " + due, told.equals(due) && due.size() == 4);
    }

    private void ordersDoWhatTheirCallsDo() {
        List<String> orders = firstCells("Orders as a text");
        Checks.due("orders that README.md tells", orders.size(), 5);
        for (String order : orders) {
            HutLoaves hut = readyForOrders(order);
            HutLoaves twin = readyForOrders(order);
            Checks.due("play() of " + order, hut.play(), 1);
            holds("the call of " + order + " is no error", callOf(twin, order) >= 0);
            Everything.same(order, hut, twin);
        }
    }

    /** A mule at home, a group that is there, money and a debt. */
    private static HutLoaves readyForOrders(String order) {
        HutLoaves hut = Checks.withoutSnow();
        hut.mule(10, 2);
        hut.group(12, 0, 9);
        hut.send(0, 10);
        hut.end(4);
        Checks.write(hut, order);
        return hut;
    }

    private static int callOf(HutLoaves hut, String order) {
        String[] words = order.substring(1, order.length() - 1).split(",");
        int[] numbers = new int[3];
        for (int k = 0; k < words.length; k++) {
            numbers[k] = Integer.parseInt(words[k]);
        }
        switch (order.charAt(0)) {
            case 's':
                return hut.send(numbers[0], numbers[1]);
            case 'g':
                return hut.group(numbers[0], numbers[1], numbers[2]);
            case 'x':
                return hut.off(numbers[0]);
            case 'p':
                return hut.pay(numbers[0]);
            case 'd':
                return hut.end(numbers[0]);
            default:
                return Checks.INVALID;
        }
    }

    private void testsAreNamed() throws IOException {
        String told = section("How to run its tests");
        int promises = 0;
        for (Path file : Scratch.filesUnder(root.resolve("src/test/java"))) {
            String name = file.getFileName().toString().replace(".java", "");
            if (name.matches("P\\d\\d\\w+Test")) {
                promises++;
                Checks.due("the promise of " + name, Integer.parseInt(name.substring(1, 3)), promises);
                holds("README.md names " + name, promises > 1 && promises < 25 || told.contains("`" + name + "`"));
            } else if (name.endsWith("Test")) {
                holds("README.md names " + name, told.contains("`" + name + "`"));
            }
        }
        Checks.due("tests of a promise each", promises, 25);
        Matcher m = Pattern.compile("`(\\w+Test|PlainHut)`").matcher(told);
        while (m.find()) {
            holds(m.group(1) + " is a file", Files.exists(root.resolve("src/test/java/" + m.group(1) + ".java")));
        }
        holds("runs and calls of RandomRunsTest",
            told.contains(RandomRunsTest.RUNS + " runs of up to " + RandomRunsTest.CALLS + " calls"));
    }

    private String section(String heading) {
        Matcher m = Pattern.compile("(?ms)^#+ " + heading + "\n(.*?)(^##|\\z)").matcher(readme);
        return m.find() ? m.group(1) : "";
    }

    private List<String> firstCells(String heading) {
        List<String> cells = new ArrayList<>();
        Matcher m = Pattern.compile("(?m)^\\| `([^`]+)` \\|").matcher(section(heading));
        while (m.find()) {
            cells.add(m.group(1));
        }
        return cells;
    }

    // ---- what is run

    private void commandsRun() throws IOException, InterruptedException {
        Scratch scratch = new Scratch();
        try {
            copyTo(scratch);
            runAll(scratch);
            aWrongAnswerIsTold(scratch);
        } finally {
            scratch.delete();
        }
    }

    private void copyTo(Scratch scratch) throws IOException {
        for (String part : new String[] {".ci", "src"}) {
            scratch.copy(root.resolve(part), scratch.project.resolve(part));
        }
        scratch.copy(document.getParent(), scratch.shared);
        for (String test : NOT_IN_THE_COPY) {
            Files.delete(scratch.project.resolve("src/test/java/" + test));
        }
    }

    /** Commands after an example print its answers; a text is the last lines of those ahead of it, N for a number. */
    private void runAll(Scratch scratch) throws IOException, InterruptedException {
        List<String> due = null;
        List<String> printed = List.of();
        for (String[] block : blocks) {
            if (block[0].equals("java")) {
                holds("the example ahead of " + nameOf(block[1]) + " is run", due == null);
                due = dueLines(block[1]);
            } else if (block[0].equals("sh")) {
                printed = linesOf(scratch, block[1]);
                boolean asDue = due == null || due.equals(printed);
                holds("what is printed by\n" + block[1] + printed + ", due is " + due, asDue);
                due = null;
            } else {
                holds("the last lines of " + printed + " are " + block[1], endsWith(printed, block[1]));
            }
        }
        holds("the last example is run", due == null);
        holds(RUN_ALL + " is a command of README.md", readme.contains("```sh\n" + RUN_ALL + "\n```"));
    }

    private static List<String> linesOf(Scratch scratch, String commands) throws IOException, InterruptedException {
        Scratch.Answer answer = scratch.run(commands);
        boolean well = answer.exit == 0 && !answer.tells("FAILED.*|error.*");
        holds("these commands run well:\n" + commands + (well ? "" : String.join("\n", answer.lines)), well);
        return answer.lines;
    }

    private static boolean endsWith(List<String> printed, String text) {
        String[] want = text.split("\n");
        int from = printed.size() - want.length;
        for (int k = 0; k < want.length; k++) {
            StringBuilder pattern = new StringBuilder();
            for (String part : want[k].split("\\bN\\b", -1)) {
                pattern.append(pattern.length() == 0 ? "" : "\\d+").append(Pattern.quote(part));
            }
            if (from < 0 || !printed.get(from + k).matches(pattern.toString())) {
                return false;
            }
        }
        return true;
    }

    /** With room for 79 loaves, the tests of single sentences are enough to see it. */
    private void aWrongAnswerIsTold(Scratch scratch) throws IOException, InterruptedException {
        Path wrong = scratch.project.resolve("src/main/java/HutLoaves.java");
        holds("the class has a room of 80", source.contains("ROOM = 80;"));
        scratch.write(wrong, source.replace("ROOM = 80;", "ROOM = 79;"));
        for (Path file : Scratch.filesUnder(scratch.project.resolve("src/test/java"))) {
            if (file.getFileName().toString().matches("(P\\d\\d|Random|EdgeSentences|Face|Language).*Test\\.java")) {
                Files.delete(file);
            }
        }
        Scratch.Answer answer = scratch.run(RUN_ALL);
        Checks.due("exit code of " + RUN_ALL + " with a wrong answer", answer.exit, 1);
        holds("an answer that is not due is told", answer.tells(".* answered -?\\d+, due is -?\\d+"));
        holds("the sentence is told", answer.tells("BROKEN: promise \\d+, \".*\" \\(\\w+EdgesTest\\.\\w+\\)"));
        holds("the test is told", answer.tells("FAILED: \\w+EdgesTest"));
        holds("they are counted: " + answer.lastLine(), answer.lastLine().matches("\\d+ passed, [1-9]\\d* failed"));
    }
}
