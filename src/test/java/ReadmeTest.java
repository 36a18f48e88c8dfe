import java.io.IOException;
import java.nio.file.Files;
import java.nio.file.Path;
import java.util.HashMap;
import java.util.List;
import java.util.Map;
import java.util.Set;
import java.util.TreeSet;
import java.util.regex.Matcher;
import java.util.regex.Pattern;
import java.util.stream.Collectors;
import java.util.stream.Stream;

/** What README.md says is so: the answers behind the calls of its examples, and its list of the tests. */
public final class ReadmeTest {
    /** int name = desk.method(arguments); // answer: words */
    private static final Pattern CALL = Pattern.compile(
        "(?:int (\\w+) = )?desk\\.(\\w+)\\((.*)\\);\\s*// (-?\\d+): .+");

    private ReadmeTest() {
    }

    public static void main(String[] args) throws IOException {
        List<String> lines = Files.readAllLines(Path.of("README.md"));
        examples(lines);
        tests(String.join("\n", lines));
        Checks.close("ReadmeTest");
    }

    /** All examples are of one object, one behind the other. */
    private static void examples(List<String> lines) {
        CourierDesk desk = new CourierDesk();
        Map<String, Integer> named = new HashMap<>();
        Set<String> used = new TreeSet<>();
        boolean inside = false;
        for (String line : lines) {
            if (line.startsWith("```")) {
                inside = line.equals("```java");
            } else if (inside && !line.equals("CourierDesk desk = new CourierDesk();")) {
                Matcher call = CALL.matcher(line);
                Checks.holds("'" + line + "' is a call with its answer", call.matches());
                if (call.matches()) {
                    int answer = Script.invoke(desk, call.group(2), values(call.group(3), named));
                    Checks.due("README: " + line, answer, Integer.parseInt(call.group(4)));
                    named.put(call.group(1), answer);
                    used.add(call.group(2));
                }
            }
        }
        Checks.holds("the examples use most of the methods", used.size() >= 17);
    }

    private static int[] values(String arguments, Map<String, Integer> named) {
        if (arguments.isEmpty()) {
            return new int[0];
        }
        String[] told = arguments.split(", ");
        int[] values = new int[told.length];
        for (int i = 0; i < told.length; i++) {
            for (String part : told[i].split(" \\+ ")) {
                values[i] += named.containsKey(part) ? named.get(part) : Integer.decode(part);
            }
        }
        return values;
    }

    private static void tests(String text) throws IOException {
        Set<String> told = new TreeSet<>();
        Matcher name = Pattern.compile("\\b\\w+Test\\b").matcher(text);
        while (name.find()) {
            told.add(name.group());
        }
        Set<String> there;
        try (Stream<Path> files = Files.list(Path.of("src/test/java"))) {
            there = files.map(file -> file.getFileName().toString()).filter(file -> file.endsWith("Test.java"))
                .map(file -> file.replace(".java", "")).collect(Collectors.toCollection(TreeSet::new));
        }
        Checks.holds("README tells the tests " + told + ", there are " + there, told.equals(there));
        Checks.holds(".ci/run can be run", Files.isExecutable(Path.of(".ci/run")));
    }
}
