import java.lang.reflect.Method;
import java.lang.reflect.Modifier;
import java.nio.file.Files;
import java.nio.file.Path;
import java.util.List;
import java.util.Map;
import java.util.Set;
import java.util.TreeSet;
import java.util.regex.Matcher;
import java.util.regex.Pattern;
import java.util.stream.Stream;

/** What README.md shows as an answer is what the class answers; it shows every call and names every test. */
public final class WovenCallsReadme {
    private static final Map<String, Integer> NAMED = Map.of("NONE", WovenCalls.NONE, "BAD", WovenCalls.BAD, "STATE", WovenCalls.STATE,
        "FULL", WovenCalls.FULL, "NULL", Played.NULL, "PLACE", Played.PLACE, "KIND", Played.KIND, "SIZE", Played.SIZE, "STORE", Played.STORE);
    private static final String NEW = "WovenCalls x = new WovenCalls();";
    private static final Pattern FED = Pattern.compile("for \\(char c : \"([^\"]*)\"\\.toCharArray\\(\\)\\) x\\.feed\\(c\\);");
    private static final Pattern CALL = Pattern.compile("x\\.(\\w+)\\(([-0-9, ]*)\\); +// (-?\\d+|[A-Z]+): .+");
    private static final Pattern TABLED = Pattern.compile("\\| `([A-Z]+)` \\| (-?\\d+) \\| .+ \\|");

    private static final Set<String> shown = new TreeSet<>();
    private static int answers = 0;
    private static Played x = null;

    private static void java(String line) {
        Matcher fed = FED.matcher(line), call = CALL.matcher(line);
        if (line.equals(NEW)) {
            x = new Played();
        } else if (x == null) {
            Played.hold("README makes an object ahead of " + line, 0, 1);
        } else if (fed.matches()) {
            x.call("text " + fed.group(1));
        } else if (call.matches()) {
            String told = (call.group(1) + " " + call.group(2).replace(",", "")).trim();
            Integer named = NAMED.get(call.group(3));
            x.due("README", told, named != null ? named : Integer.parseInt(call.group(3)));
            shown.add(call.group(1));
            answers++;
        } else {
            Played.hold("README shows what can be tested, but " + line, 0, 1);
        }
    }

    private static void blocks(List<String> lines) {
        boolean within = false;
        for (String line : lines) {
            if (line.startsWith("```")) {
                within = line.equals("```java");
                x = null;
            } else if (within) {
                java(line);
            }
        }
    }

    private static void table(List<String> lines) {
        int rows = 0;
        for (String line : lines) {
            Matcher tabled = TABLED.matcher(line);
            if (!tabled.matches()) continue;
            rows++;
            Played.hold("README's table, " + tabled.group(1), Integer.parseInt(tabled.group(2)), NAMED.getOrDefault(tabled.group(1), 0));
        }
        Played.hold("README's table has all names", rows, NAMED.size());
    }

    private static void everyCall() {
        for (Method m : WovenCalls.class.getDeclaredMethods()) {
            boolean told = !Modifier.isPublic(m.getModifiers()) || shown.contains(m.getName());
            Played.hold("README shows " + m.getName(), told ? 1 : 0, 1);
        }
        Played.hold("README shows answers", answers > 0 ? 1 : 0, 1);
    }

    private static void everyTest(String page) throws java.io.IOException {
        try (Stream<Path> tests = Files.list(Path.of("src/test/java"))) {
            for (Path test : tests.toList()) {
                Played.hold("README names " + test, page.contains("`src/test/java/" + test.getFileName() + "`") ? 1 : 0, 1);
            }
        }
    }

    public static void main(String[] args) throws java.io.IOException {
        List<String> lines = Files.readAllLines(Path.of("README.md"));
        blocks(lines);
        table(lines);
        everyCall();
        everyTest(String.join("\n", lines));
        Played.end();
    }
}
