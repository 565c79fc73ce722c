import java.io.IOException;
import java.lang.reflect.Method;
import java.nio.file.Files;
import java.nio.file.Path;
import java.util.LinkedHashMap;
import java.util.Map;
import java.util.regex.Matcher;
import java.util.regex.Pattern;

/**
 * Each test of a sentence quotes words of the document, and there is a test for all words of the
 * document that name a boundary: those that no test quotes must stand here, as naming none.
 */
public final class EdgeSentencesTest {
    private static final String TERMS = "Terms";
    private static final Pattern SIGNATURE = Pattern.compile("`(int )?\\w+\\([\\w ,]*\\)`: ");

    /** Words without a boundary, each with its section: headings, what a call is for, what no call can answer. */
    private static final String[][] NO_BOUNDARY = {
        {TERMS, "Bread for a mountain hut that mules bring up: mules with loads that are on their way, rest, or go lame,"
            + " loaves that are baked in the valley on credit, loaves that get old and stale, guests in groups with"
            + " nights that are booked, bread that is eaten the oldest first, soup of stale bread, guests who stay"
            + " hungry and pay less, days of snow by a number that goes on, debts at the baker's, why a mule cannot go,"
            + " the day on which bread runs out, the mule that should go next, how much should be sent, what days would"
            + " bring, accounts that add up, and orders as texts with places, reasons and causes of faults."},
        {TERMS, "what later calls answer is free."},
        {TERMS, "All numbers are whole numbers, where no float is told."},
        {TERMS, "Sets of mules or groups are told as bits: bit k is for number k."},
        {TERMS, "Loaves, the baker"},
        {TERMS, "Ahead of the calls `mule`, `send`, `rest`, `pay` the interface says: ---- mules, the baker."},
        {TERMS, "Ahead of the calls `group`, `off`, `end`, `set` the interface says: ---- guests, days."},
        {TERMS, "Ahead of the calls `muleOf`, `groupOf`, `number`, `loaves` the interface says: ---- what there is."},
        {TERMS, "Ahead of the calls `why`, `wanted`, `hungry`, `next`, `would`, `mean`, `count`, `undo` the interface"
            + " says: ---- what would be."},
        {TERMS, "Ahead of the calls `type`, `clearText`, `fault`, `play` the interface says: ---- texts."},
        {TERMS, "The constants:"},
    };

    private final Map<String, String> sections = new LinkedHashMap<>();
    private final Map<String, boolean[]> quoted = new LinkedHashMap<>();

    public static void main(String[] args) throws IOException {
        if (args.length < 2) {
            Checks.due("arguments: the paths of the class and of the document", args.length, 2);
            Checks.finish(EdgeSentencesTest.class);
        }
        EdgeSentencesTest test = new EdgeSentencesTest(Files.readString(Path.of(args[1])));
        test.testsQuoteTheDocument();
        test.everyWordIsQuoted();
        Checks.finish(EdgeSentencesTest.class);
    }

    /** The promises are a section each; what stands ahead of them, but for the public face, is one more. */
    private EdgeSentencesTest(String document) {
        String section = TERMS;
        boolean code = false;
        boolean over = false;
        for (String line : document.split("\n")) {
            if (line.startsWith("```")) {
                code = !code;
            } else if (line.startsWith("## Not promised")) {
                over = true;
            } else if (line.startsWith("## Promise ")) {
                section = line.substring(3, line.indexOf(':'));
            } else if (!line.startsWith("#") && !code && !over) {
                String words = line.replaceFirst("^(- |\\d\\. )", "").trim();
                sections.merge(section, SIGNATURE.matcher(words).replaceFirst(""), (a, b) -> (a + " " + b).trim());
            }
        }
        sections.replaceAll((name, words) -> words.replaceAll("\\s+", " ").trim());
        sections.forEach((name, words) -> quoted.put(name, new boolean[words.length()]));
        Checks.due("sections of the document", sections.size(), 26);
    }

    private void testsQuoteTheDocument() {
        for (Class<?> type : Edges.CLASSES) {
            for (Method test : Edges.testsOf(type)) {
                Edge edge = test.getAnnotation(Edge.class);
                boolean found = quote("Promise " + edge.promise(), edge.says()) || quote(TERMS, edge.says());
                String name = type.getName() + "." + test.getName();
                Checks.due("places of \"" + edge.says() + "\", which " + name + " quotes", found ? 1 : 0, 1);
                Checks.due("a promise 1 to 25 of " + name, sections.containsKey("Promise " + edge.promise()) ? 1 : 0, 1);
            }
        }
        for (String[] none : NO_BOUNDARY) {
            Checks.due("places of \"" + none[1] + "\"", quote(none[0], none[1]) ? 1 : 0, 1);
        }
    }

    private boolean quote(String section, String says) {
        String words = sections.getOrDefault(section, "");
        boolean found = false;
        for (int at = words.indexOf(says); at >= 0; at = words.indexOf(says, at + 1)) {
            found = true;
            for (int k = at; k < at + says.length(); k++) {
                quoted.get(section)[k] = true;
            }
        }
        return found;
    }

    private void everyWordIsQuoted() {
        for (Map.Entry<String, String> section : sections.entrySet()) {
            StringBuilder left = new StringBuilder();
            boolean[] marks = quoted.get(section.getKey());
            for (int k = 0; k < marks.length; k++) {
                left.append(marks[k] ? ' ' : section.getValue().charAt(k));
            }
            Matcher words = Pattern.compile("\\S+( \\S+)*").matcher(left);
            while (words.find()) {
                Checks.due(section.getKey() + ": tests that quote \"" + words.group() + "\"", 0, 1);
            }
        }
    }
}
