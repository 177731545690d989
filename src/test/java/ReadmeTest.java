import java.io.IOException;
import java.nio.file.Files;
import java.nio.file.Path;
import java.util.Set;
import java.util.TreeSet;
import java.util.regex.Matcher;
import java.util.regex.Pattern;

/**
 * README.md is right: its example answers what it says, and its lists name every call with as many
 * arguments as it has, and every constant. Run it at the root.
 */
public final class ReadmeTest {
    private static final Due DUE = new Due("ReadmeTest");

    private ReadmeTest() {
    }

    public static void main(String[] args) throws IOException {
        String text = Files.readString(Path.of("README.md"));
        example(text);
        lists(text);
        DUE.end();
    }

    /** Lines of the form map.call(1, 2); // answer: why. */
    private static void example(String text) {
        DUE.part("the example of README.md");
        OldMap map = new OldMap();
        Matcher line = Pattern.compile("(?m)^map\\.(\\w+)\\(([^)]*)\\); *// (-?\\d+)").matcher(text);
        int found = 0;
        while (line.find()) {
            found++;
            int call = Calls.number(line.group(1));
            int[] arguments = numbers(line.group(2));
            DUE.is(line.group(), arguments.length, Calls.ARGUMENTS[call]);
            DUE.is(line.group(), Calls.ask(map, call, arguments), Long.parseLong(line.group(3)));
        }
        DUE.holds("calls in the example: " + found, found > 9);
        DUE.is("lines of the example that no test reads", count(text, "(?m)^ *map\\."), found);
    }

    private static int[] numbers(String list) {
        String[] parts = list.isBlank() ? new String[0] : list.split(", *");
        int[] numbers = new int[parts.length];
        for (int k = 0; k < parts.length; k++) {
            String part = parts[k].replace("true", "1").replace("false", "0");
            numbers[k] = Integer.parseInt(part);
        }
        return numbers;
    }

    private static int count(String text, String pattern) {
        return (int) Pattern.compile(pattern).matcher(text).results().count();
    }

    /** Rows of a table that begin with | `call(names)` |. */
    private static void lists(String text) {
        DUE.part("the lists of README.md");
        Set<String> missing = new TreeSet<>(Set.of(Calls.NAMES));
        Matcher row = Pattern.compile("(?m)^\\| `(\\w+)\\(([^)]*)\\)` \\|").matcher(text);
        while (row.find()) {
            int call = Calls.number(row.group(1));
            int named = row.group(2).isBlank() ? 0 : row.group(2).split(",").length;
            DUE.is("arguments of " + row.group(), named, Calls.ARGUMENTS[call]);
            missing.remove(row.group(1));
        }
        DUE.holds("every call is listed, but " + missing, missing.isEmpty());
        for (String constant : new String[] {"NUMBER", "FULL", "FEW", "FLAT", "NONE", "NOTHING"}) {
            DUE.holds(constant + " is listed", text.contains("`" + constant + "`"));
        }
    }
}
