import java.nio.file.Files;
import java.nio.file.Path;
import java.util.ArrayList;
import java.util.List;
import java.util.regex.Matcher;
import java.util.regex.Pattern;

/**
 * Rules of ../shared/LANGUAGE.md that can be seen in the source, whose path is the argument. It is
 * stricter where the class needs less: the document names no exception, so none is thrown or caught.
 */
public final class LanguageTest {
    private static final String[] RULED_OUT = {"\\bimport\\b", "\\bpackage\\b", "->", "::", "\\bfinally\\b",
        "\\bsynchronized\\b", "\\bassert\\b", "\\bcatch\\b", "\\bthrows\\b", "\\bthrow\\b", "\\bprotected\\b",
        "Exact\\(", "\\bSystem\\b", "\\bFloat\\b", "\\bDouble\\b", "\\bhashCode\\b", "\\btoString\\b", "\\bvar\\b",
        "\\bvolatile\\b", "\\bnative\\b", "\\bThread\\b", "\\bwhile \\(true\\)", "for \\(;;\\)", "\\bstatic \\{"};

    public static void main(String[] args) throws java.io.IOException {
        String source = Files.readString(Path.of(args[0]));
        for (int k = 0; k < source.length(); k++) {
            if (source.charAt(k) > 126) {
                Checks.due("the sign at " + k, source.charAt(k), 126);
            }
        }
        String code = source.replaceAll("(?s)/\\*.*?\\*/", "").replaceAll("//[^\n]*", "");
        for (String pattern : RULED_OUT) {
            Checks.due("places of " + pattern, places(code, pattern).size(), 0);
        }
        Checks.due("few enough classes", places(code, "\\bclass\\b").size() <= 12 ? 1 : 0, 1);
        for (String method : source.split("\n\n")) {
            int lines = method.split("\n").length;
            if (lines > 60) {
                Checks.due("lines of a part that begins with " + method.substring(0, 60), lines, 60);
            }
        }
        noPrivateMethodHasAPublicName(code);
        Checks.finish(LanguageTest.class);
    }

    private static void noPrivateMethodHasAPublicName(String code) {
        List<String> open = places(code, "public int (\\w+)\\(");
        Checks.due("public methods", open.size(), 24);
        for (String hidden : places(code, "(?m)^ +(?! |public|return|else|new)[\\w\\[\\] ]+ (\\w+)\\([^)]*\\) \\{")) {
            Checks.due("public methods named " + hidden, open.contains(hidden) ? 1 : 0, 0);
        }
    }

    private static List<String> places(String code, String pattern) {
        List<String> found = new ArrayList<>();
        Matcher m = Pattern.compile(pattern).matcher(code);
        while (m.find()) {
            found.add(m.groupCount() > 0 ? m.group(1) : m.group());
        }
        return found;
    }
}
