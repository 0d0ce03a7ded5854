import java.io.IOException;
import java.lang.reflect.Method;
import java.nio.file.Files;
import java.nio.file.Path;
import java.util.ArrayList;
import java.util.HashSet;
import java.util.List;
import java.util.Map;
import java.util.Set;
import java.util.TreeMap;
import java.util.regex.MatchResult;
import java.util.regex.Pattern;
import java.util.stream.Collectors;
import java.util.stream.Stream;

/** What README.md says: each call of the document with its arguments and refusals, and a run of calls that is true. */
final class ReadmeTest {
    private static final Map<String, Integer> NAMED = Map.of(
        "UNKNOWN", BoulderLand.UNKNOWN, "OUTSIDE", BoulderLand.OUTSIDE, "STATE", BoulderLand.STATE,
        "FULL", BoulderLand.FULL, "NONE", BoulderLand.NONE);
    private static final int PROMISED_CALLS = 34;

    public static void main(String[] args) throws IOException, ReflectiveOperationException {
        String readme = Files.readString(Path.of("README.md"));
        String doc = Files.readString(Path.of("../shared/DOC.md"));
        checkTable(readme, doc);
        checkNumbers(readme);
        checkRun(readme);
        checkTests(readme);
        Check.end();
    }

    private static List<MatchResult> all(String pattern, String text) {
        return Pattern.compile(pattern).matcher(text).results().collect(Collectors.toList());
    }

    private static String refusals(String text) {
        return all("\\b(UNKNOWN|OUTSIDE|STATE|FULL)\\b", text).stream().map(MatchResult::group)
            .collect(Collectors.joining(" "));
    }

    // of each promise: the call with its arguments, and the refusals in the order in which they are named
    private static void checkTable(String readme, String doc) {
        Map<String, String> rows = new TreeMap<>();
        for (MatchResult row : all("(?m)^\\| `(\\w+\\([\\w, ]*\\))` \\| (.+) \\|([^|]*)\\|$", readme)) {
            Check.so(row.group(1) + " stands in one row", rows.put(row.group(1), refusals(row.group(3))) == null);
        }
        List<MatchResult> promises =
            all("(?m)^`int (\\w+)\\(([^)]*)\\)`: (.*)$", doc.substring(doc.indexOf("## Promise 1:")));
        Check.due("promises of calls", promises.size(), PROMISED_CALLS);
        for (MatchResult promise : promises) {
            String call = promise.group(1) + "(" + promise.group(2).replaceAll("\\b(int|boolean) ", "") + ")";
            String told = rows.remove(call);
            Check.so(call + " stands in README.md", told != null);
            Check.so(call + " is refused by '" + told + "' in README.md, by '" + refusals(promise.group(3))
                + "' in the document", refusals(promise.group(3)).equals(told));
        }
        Check.so("no promise tells of " + rows.keySet(), rows.isEmpty());
    }

    private static void checkNumbers(String readme) {
        for (Map.Entry<String, Integer> named : NAMED.entrySet()) {
            Check.so(named + " stands in README.md",
                readme.contains("| `" + named.getKey() + "` | " + named.getValue() + " |"));
        }
    }

    private static void checkRun(String readme) throws ReflectiveOperationException {
        int start = readme.indexOf("```java\n");
        int end = readme.indexOf("```", start + 1);
        Check.so("README.md has a run of calls", start >= 0 && end > start);
        BoulderLand x = new BoulderLand();
        Set<String> called = new HashSet<>();
        for (String line : readme.substring(start, end).split("\n")) {
            if (!line.startsWith("x.")) {
                continue;
            }
            List<MatchResult> call = all("^x\\.(\\w+)\\(([^)]*)\\); *// (-?\\w+)(: .*)?$", line);
            Check.due("calls in: " + line, call.size(), 1);
            for (MatchResult one : call) {
                called.add(one.group(1));
                String due = one.group(3);
                Check.due("README.md: " + line, call(x, one.group(1), one.group(2)),
                    NAMED.containsKey(due) ? NAMED.get(due) : Integer.parseInt(due));
            }
        }
        Check.due("calls that the run shows", called.size(), PROMISED_CALLS);
    }

    private static int call(BoulderLand x, String name, String with) throws ReflectiveOperationException {
        List<Object> arguments = new ArrayList<>();
        for (String one : with.isEmpty() ? new String[0] : with.split(", ")) {
            if (one.equals("true") || one.equals("false")) {
                arguments.add(one.equals("true"));
            } else {
                arguments.add(Integer.valueOf(one));
            }
        }
        for (Method method : BoulderLand.class.getDeclaredMethods()) {
            if (method.getName().equals(name) && method.getParameterCount() == arguments.size()) {
                return (Integer) method.invoke(x, arguments.toArray());
            }
        }
        return 0;
    }

    private static void checkTests(String readme) throws IOException {
        Check.so("README.md tells the command", readme.contains("```sh\n.ci/run\n```") && Files.exists(Path.of(".ci/run")));
        try (Stream<Path> files = Files.list(Path.of("src/test/java"))) {
            for (Path file : files.collect(Collectors.toList())) {
                String name = file.getFileName().toString().replace(".java", "");
                Check.so(name + " stands in README.md", !name.endsWith("Test") || readme.contains("`" + name + "`"));
            }
        }
        for (MatchResult named : all("`(\\w+Test)`", readme)) {
            Check.so(named.group(1) + " is there", Files.exists(Path.of("src/test/java/" + named.group(1) + ".java")));
        }
    }
}
