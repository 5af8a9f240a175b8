import java.io.File;
import java.io.IOException;
import java.lang.reflect.Method;
import java.lang.reflect.Modifier;
import java.nio.file.Files;
import java.nio.file.Path;
import java.util.HashSet;
import java.util.List;
import java.util.Set;
import java.util.regex.Matcher;
import java.util.regex.Pattern;

/**
 * The example in README.md gives the answers that README.md names, and README.md tells of every call, error and test.
 * It is run from the project's folder, as .ci/run does.
 */
public final class ReadmeTest {
    private static final String NEW_OBJECT = "VillageCinema cinema = new VillageCinema();";
    private static final Pattern CALL = Pattern.compile("cinema\\.(\\w+)\\(([^()]*)\\); +// (\\w+)(: .+)?");
    private static final List<String> CODES =
        List.of("NO_SUCH", "BAD_VALUE", "BAD_TEXT", "TOO_MANY", "NOT_POSSIBLE", "NONE");
    private static final int MOST_CALLS = 512;

    private final Checks checks = new Checks("ReadmeTest");
    private final Set<String> called = new HashSet<>();
    private final Set<String> answered = new HashSet<>();
    private VillageCinema cinema;
    private int calls;

    private ReadmeTest() {
    }

    public static void main(String[] arguments) throws IOException, ReflectiveOperationException {
        String readme = Files.readString(Path.of("README.md"));
        ReadmeTest test = new ReadmeTest();
        test.runExample(readme);
        test.tellsOfEachCall(readme);
        test.tellsOfEachCode(readme);
        test.tellsOfEachTest(readme);
        test.checks.end();
    }

    private void runExample(String readme) throws ReflectiveOperationException {
        int from = readme.indexOf("```java\n") + 8;
        int end = readme.indexOf("\n```", from);
        checks.isTrue("there is one example", from >= 8 && end > from && readme.indexOf("```java", end) < 0);
        for (String line : readme.substring(from, Math.max(from, end)).split("\n")) {
            runLine(line);
        }
        for (Method method : face()) {
            checks.isTrue("the example calls " + method.getName(), called.contains(method.getName()));
        }
        checks.isTrue("the example keeps to " + MOST_CALLS + " calls", calls <= MOST_CALLS);
        for (String code : CODES) {
            boolean tooLong = code.equals("TOO_MANY");
            checks.isTrue("the example shows " + code, tooLong || answered.contains(code));
        }
    }

    private void runLine(String line) throws ReflectiveOperationException {
        if (line.isEmpty() || line.startsWith("// ")) {
            return;
        }
        if (line.equals(NEW_OBJECT)) {
            cinema = new VillageCinema();
            return;
        }
        Matcher matcher = CALL.matcher(line);
        if (cinema == null || !matcher.matches()) {
            checks.isTrue("the line can be read: " + line, false);
            return;
        }
        calls++;
        called.add(matcher.group(1));
        answered.add(matcher.group(3));
        checks.due(line, answerOf(matcher.group(1), matcher.group(2)), numberOf(matcher.group(3)));
    }

    private long answerOf(String name, String list) throws ReflectiveOperationException {
        String[] texts = list.isEmpty() ? new String[0] : list.split(", ");
        for (Method method : face()) {
            Class<?>[] types = method.getParameterTypes();
            if (method.getName().equals(name) && types.length == texts.length) {
                Object[] values = new Object[texts.length];
                for (int i = 0; i < texts.length; i++) {
                    // An int is written as one, so that the example compiles as it stands.
                    values[i] = types[i] == long.class ? (Object) longOf(texts[i]) : (Object) (int) numberOf(texts[i]);
                }
                return (int) method.invoke(cinema, values);
            }
        }
        checks.isTrue("there is a call " + name + " of " + texts.length, false);
        return Long.MIN_VALUE;
    }

    private static long longOf(String text) {
        return Long.decode(text.substring(0, text.length() - 1));
    }

    /** A number, or a constant of the class (with the class's name ahead of it, as an argument). */
    private static long numberOf(String text) throws ReflectiveOperationException {
        if (text.matches("-?[0-9]+")) {
            return Integer.parseInt(text);
        }
        return VillageCinema.class.getField(text.replace("VillageCinema.", "")).getInt(null);
    }

    private static List<Method> face() {
        return List.of(VillageCinema.class.getDeclaredMethods()).stream()
            .filter(method -> Modifier.isPublic(method.getModifiers())).toList();
    }

    /** Each call has one row of a table, with as many arguments as it takes. */
    private void tellsOfEachCall(String readme) {
        for (Method method : face()) {
            String arguments = "\\w+, ".repeat(method.getParameterCount()).replaceAll(", $", "");
            Pattern row = Pattern.compile("(?m)^\\| `" + method.getName() + "\\(" + arguments + "\\)` \\|.*\\|$");
            checks.due("rows of " + method.getName(), row.matcher(readme).results().count(), 1);
        }
    }

    private void tellsOfEachCode(String readme) throws ReflectiveOperationException {
        for (String code : CODES) {
            String row = "\n| `" + code + "` (" + numberOf(code) + ") | ";
            checks.isTrue("README.md tells what " + code + " means", readme.contains(row));
        }
    }

    private void tellsOfEachTest(String readme) {
        String table = readme.substring(Math.max(0, readme.indexOf("| test |")));
        String[] names = new File("src/test/java").list((folder, name) -> name.endsWith("Test.java"));
        checks.isTrue("there are tests", names != null && names.length > 0);
        for (String name : names == null ? new String[0] : names) {
            String test = "`" + name.replace(".java", "") + "`";
            checks.isTrue("README.md tells of " + test, table.contains(test));
        }
    }
}
