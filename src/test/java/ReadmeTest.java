import java.io.IOException;
import java.nio.file.Files;
import java.nio.file.Path;
import java.util.ArrayList;
import java.util.List;
import java.util.Set;
import java.util.TreeSet;
import java.util.regex.Matcher;
import java.util.regex.Pattern;
import java.util.stream.Stream;

/**
 * What README.md says: each example is played on a new object, and the tables of calls, constants and
 * ranges are held against the document, that of the tests against the tests. Runs in the project's folder.
 */
public final class ReadmeTest {
    private static final Pattern EXAMPLE = Pattern.compile("x\\.(\\w+)\\(([^)]*)\\);\\s+// (.*)");
    private static final Pattern CALL = Pattern.compile("    public ((?:int|boolean) \\w+\\(.*?\\))(?: throws (.*))?;");
    private static final Pattern CONSTANTS = Pattern.compile("    public static final int (.*);");
    private static final Pattern NUMBER = Pattern.compile("- `(\\w+)`: ((?:\\d+ to|NOTHING)[^:]*).*");

    private final Due due = new Due("ReadmeTest");
    private final List<String> readme = Files.readAllLines(Path.of("README.md"));
    private final List<String> document = Files.readAllLines(Path.of("../shared/DOC.md"));

    private ReadmeTest() throws IOException {
    }

    public static void main(String[] args) throws IOException, ReflectiveOperationException {
        ReadmeTest all = new ReadmeTest();
        all.examples();
        all.calls();
        all.constants();
        all.ranges();
        all.tests();
        all.due.end();
    }

    private void examples() throws ReflectiveOperationException {
        Caller caller = null;
        boolean isExample = false;
        int played = 0;
        for (String line : readme) {
            Matcher example = EXAMPLE.matcher(line);
            if (line.startsWith("```")) {
                isExample = line.equals("```java");
                caller = null;
            } else if (isExample && line.equals("Pathwarden x = new Pathwarden();")) {
                caller = new Caller();
            } else if (isExample && caller != null && example.matches()) {
                String call = example.group(1) + numbers(example.group(2));
                due.same(line, answer(example.group(3).split(":")[0]), caller.answer(call));
                played++;
            } else if (isExample) {
                due.same("an example that can't be played: " + line, true, false);
            }
        }
        due.same("there are examples", true, played > 0);
    }

    private static String numbers(String arguments) throws ReflectiveOperationException {
        StringBuilder numbers = new StringBuilder();
        for (String argument : arguments.isEmpty() ? new String[0] : arguments.split(", ")) {
            numbers.append(" ").append(answer(argument.replace("Pathwarden.", "")));
        }
        return numbers.toString();
    }

    /** As a Caller writes it: a number, 1 or 0 for a boolean, or the class that is thrown. */
    private static String answer(String written) throws ReflectiveOperationException {
        if (written.startsWith("throws ")) {
            return "throws.java.lang." + written.substring("throws ".length());
        }
        if (written.equals("true") || written.equals("false")) {
            return String.valueOf(Due.bit(written.equals("true")));
        }
        boolean isConstant = written.matches("[A-Z_]+");
        return isConstant ? String.valueOf(Pathwarden.class.getField(written).getInt(null)) : written;
    }

    private void calls() {
        List<String> promised = new ArrayList<>();
        for (String line : document) {
            Matcher call = CALL.matcher(line);
            if (call.matches()) {
                String thrown = call.group(2) == null ? "" : call.group(2);
                promised.add(call.group(1) + " | " + thrown.replaceAll("IndexOutOfBoundsException", "Index")
                        .replaceAll("Illegal(\\w+)Exception", "$1"));
            }
        }
        List<String> told = new ArrayList<>();
        for (String[] row : rows("call")) {
            told.add(bare(row[0]) + " | " + row[3]);
            due.same(row[0] + " tells what it answers", false, row[2].isEmpty());
        }
        due.same("the calls", promised, told);
    }

    private void constants() {
        List<String> promised = new ArrayList<>();
        for (String line : document) {
            Matcher constants = CONSTANTS.matcher(line);
            if (constants.matches()) {
                promised.add(constants.group(1));
            }
        }
        due.same("the constants", promised, rows("constants").stream().map(row -> bare(row[0])).toList());
    }

    /** Each range that a promise tells stands in one row, and each row is of some promise. */
    private void ranges() {
        Set<String> promised = new TreeSet<>();
        Set<String> told = new TreeSet<>();
        Set<String> idle = new TreeSet<>();
        rows("number").forEach(row -> idle.add(String.join(" | ", row)));
        String promise = "";
        for (String line : document) {
            Matcher number = NUMBER.matcher(line);
            if (line.startsWith("## ")) {
                promise = line.substring(line.indexOf(':') + 1).trim();
            } else if (number.matches()) {
                promised.add(promise + " " + number.group(1) + ": " + number.group(2));
                for (String[] row : rows("number")) {
                    boolean isMeant = row[0].contains("`" + number.group(1) + "`")
                            && (row[1].equals("everywhere") || row[1].contains("`" + promise + "`"));
                    if (isMeant) {
                        told.add(promise + " " + number.group(1) + ": " + row[2]);
                        idle.remove(String.join(" | ", row));
                    }
                }
            }
        }
        due.same("the ranges", promised, told);
        due.same("ranges of no promise", Set.of(), idle);
    }

    private void tests() throws IOException {
        Set<String> found = new TreeSet<>();
        try (Stream<Path> files = Files.list(Path.of("src/test/java"))) {
            files.map(file -> file.getFileName().toString())
                    .filter(name -> name.endsWith("Test.java"))
                    .forEach(name -> found.add(name.replace(".java", "")));
        }
        Set<String> told = new TreeSet<>();
        rows("test").forEach(row -> told.add(row[0]));
        due.same("the tests", found, told);
        due.same("the page tells how to run them", true, readme.contains("    bash .ci/run"));
        due.same("that can be run", true, Files.isExecutable(Path.of(".ci/run")));
    }

    private static String bare(String cell) {
        return cell.replace("`", "");
    }

    /** The rows of the table whose first column has this heading. */
    private List<String[]> rows(String heading) {
        List<String[]> found = new ArrayList<>();
        boolean isTable = false;
        for (String line : readme) {
            isTable = line.startsWith("| " + heading + " |") || isTable && line.startsWith("|");
            if (isTable && line.startsWith("| ") && !line.startsWith("| " + heading + " |")) {
                found.add(line.substring(2, line.length() - 1).trim().split(" *\\| *", -1));
            }
        }
        return found;
    }
}
