import java.io.IOException;
import java.nio.file.Files;
import java.nio.file.Path;
import java.util.Arrays;
import java.util.List;
import java.util.Set;
import java.util.TreeSet;
import java.util.regex.Matcher;
import java.util.regex.Pattern;

/** README.md, which is looked for where the test is started: its lines answer what is told behind them. */
public final class ReadmeTest {
    private static final Pattern LINE = Pattern.compile("    loom\\.(\\w+)\\((.*)\\);\\s+// (throws \\w+|true|false|-?\\d+)(:.*)?");
    private static final Pattern ROW = Pattern.compile("\\| `(\\w+)\\(.*");
    private static final List<String> NAMES = Arrays.asList(Calls.NAMES);

    public static void main(String[] args) throws IOException {
        Puppetloom loom = new Puppetloom();
        Set<String> called = new TreeSet<>();
        Set<String> listed = new TreeSet<>();
        for (String line : Files.readAllLines(Path.of("README.md"))) {
            Matcher row = ROW.matcher(line);
            if (line.startsWith("    loom.")) {
                called.add(run(loom, line));
            } else if (row.matches()) {
                listed.add(row.group(1));
            }
        }
        String all = new TreeSet<>(NAMES).toString();
        Check.same("the calls that README.md shows", called.toString(), all);
        Check.same("the calls that README.md lists", listed.toString(), all);
        Check.end("ReadmeTest");
    }

    /** Returns the name of the call. */
    private static String run(Puppetloom loom, String line) {
        Matcher told = LINE.matcher(line);
        if (!told.matches() || !NAMES.contains(told.group(1))) {
            Check.same(line, "no call with its answer", "a call with its answer");
            return "none";
        }
        String name = told.group(1);
        String outcome = Calls.outcome(loom, NAMES.indexOf(name), numbers(told.group(2)));
        Check.same(line.trim(), asWritten(name, outcome), told.group(3));
        return name;
    }

    private static int[] numbers(String arguments) {
        if (arguments.isEmpty()) {
            return new int[0];
        }
        return Arrays.stream(arguments.split(", ")).mapToInt(ReadmeTest::number).toArray();
    }

    private static int number(String argument) {
        return argument.equals("Puppetloom.NONE") ? Puppetloom.NONE : Integer.parseInt(argument);
    }

    private static String asWritten(String name, String outcome) {
        if (outcome.startsWith("throws.")) {
            return "throws " + outcome.substring(outcome.lastIndexOf('.') + 1);
        }
        return name.equals("isBusy") ? outcome.equals("1") ? "true" : "false" : outcome;
    }
}
