import java.io.IOException;
import java.nio.file.Files;
import java.nio.file.Path;
import java.util.Set;
import java.util.regex.Matcher;
import java.util.regex.Pattern;

/** The source keeps to those rules of LANGUAGE.md that its words show; its path is the argument. */
public final class LanguageTest {
    private static final String[] FORBIDDEN = {
        "\\b(throw|throws|try|catch|finally|synchronized|assert|import|package|instanceof|protected|native)\\b",
        "->", "::", "\\b(hashCode|toString|equals|getClass)\\b", "\\bnew\\s+\\w+\\s*\\([^)]*\\)\\s*\\{",
        "\\b(double|float|Object|Thread|Random)\\b", "\\bstatic\\s*\\{", "[^\\x00-\\x7f]", "\\bwhile\\s*\\(true\\)",
        "\\bfor\\s*\\(\\s*;\\s*;", "Exact\\b", "\"",
        // Rows are made with the object and used again: 'new' stands at fields alone.
        "(?m)^(?! +private final ).*\\bnew\\b"};
    private static final Pattern LIBRARY = Pattern.compile("\\b(?:java\\w*|System|Math|Integer|Long|Short|Byte|Character"
        + "|Boolean|Arrays|String|StringBuilder|List|ArrayList|Iterable|Iterator|Comparable)\\b(?:\\.\\w+)*");
    private static final Set<String> USED = Set.of("System.arraycopy", "Math.min", "Math.max");
    private static final int MOST_LINES = 60, MOST_CLASSES = 12;

    private LanguageTest() {
    }

    public static void main(String[] arguments) throws IOException {
        Checks checks = new Checks("LanguageTest");
        String path = arguments.length > 0 ? arguments[0] : "src/main/java/VillageCinema.java";
        String code = withoutComments(Files.readString(Path.of(path)));
        for (String forbidden : FORBIDDEN) {
            Matcher matcher = Pattern.compile(forbidden).matcher(code);
            checks.isTrue("no " + forbidden, !matcher.find());
        }
        Matcher library = LIBRARY.matcher(code);
        while (library.find()) {
            checks.isTrue("of the library " + library.group(), USED.contains(library.group()));
        }
        checks.isTrue("few classes", code.split("\\b(class|enum|record|interface) ").length - 1 <= MOST_CLASSES);
        checks.isTrue("short methods", longestMethod(code) <= MOST_LINES);
        checks.end();
    }

    private static String withoutComments(String text) {
        return text.replaceAll("(?s)/\\*.*?\\*/", "").replaceAll("//[^\n]*", "");
    }

    /** The most lines between a line that opens a method and the one that closes it, by their indents. */
    private static int longestMethod(String code) {
        int longest = 0;
        int from = 0;
        String end = "";
        String[] lines = code.split("\n");
        for (int i = 0; i < lines.length; i++) {
            String line = lines[i];
            if (line.matches("( {4}| {8})[\\w\\[\\]<> ]+\\([^;]*\\) \\{") && !line.contains(" else ")) {
                String indent = line.substring(0, line.length() - line.stripLeading().length());
                if (end.isEmpty()) {
                    from = i;
                    end = indent + "}";
                }
            } else if (line.equals(end)) {
                longest = Math.max(longest, i - from + 1);
                end = "";
            }
        }
        return longest;
    }
}
