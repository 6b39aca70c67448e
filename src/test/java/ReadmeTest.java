import java.io.IOException;
import java.nio.file.Files;
import java.nio.file.Path;
import java.util.HashMap;
import java.util.List;
import java.util.Map;
import java.util.regex.Matcher;
import java.util.regex.Pattern;
import java.util.stream.Collectors;
import java.util.stream.Stream;

/**
 * README.md tells each call in the document's words, its example answers what it says, and its
 * table has each test. It is run in the project's folder, as .ci/run does.
 */
public final class ReadmeTest {
    private static final Path DOCUMENT = Path.of("../shared/DOC.md");
    private static final Path README = Path.of("README.md");
    private static final Path TESTS = Path.of("src/test/java");
    private static final Pattern SIGNATURE = Pattern.compile("`(.+?)( throws .+)?`: (.+)");
    private static final Pattern EXAMPLE = Pattern.compile("```java\n(.+?)```", Pattern.DOTALL);
    private static final Pattern EXAMPLE_LINE =
            Pattern.compile("(?:int (\\w+) = )?x\\.(\\w+)\\((.*)\\);(?: *// ([^:]+)(?::.*)?)?");

    private static final Due due = new Due("ReadmeTest");

    public static void main(String[] args) throws IOException {
        String document = Files.readString(DOCUMENT);
        String readme = Files.readString(README);
        terms(document, readme);
        promises(document, readme);
        example(readme);
        tests(readme);
        due.close();
    }

    /** Line ends fall elsewhere in README.md than in the document. */
    private static String oneLine(String text) {
        return text.replaceAll("\\s+", " ");
    }

    /** What the document says ahead of its promises and behind them, but for the public face. */
    private static void terms(String document, String readme) {
        for (String part : document.split("\n## ")) {
            String[] lines = part.split("\n");
            if (List.of("What it is", "Terms", "Not promised").contains(lines[0])) {
                for (String line : List.of(lines).subList(1, lines.length)) {
                    words(lines[0], line, readme);
                }
            }
        }
    }

    private static void words(String where, String line, String readme) {
        if (!line.isEmpty() && !line.startsWith("#") && !line.startsWith("Ahead of the calls")) {
            due.sentence(where, line);
            due.is("is in README.md", oneLine(readme).contains(line));
        }
    }

    private static void promises(String document, String readme) {
        String[] promises = document.split("\n## ");
        int told = 0;
        for (String promise : promises) {
            if (promise.startsWith("Promise ")) {
                told++;
                promise(promise.split("\n"), readme);
            }
        }
        due.is("promises of the document", told, 20);
    }

    /** The words of a promise stand below the heading of its call, those of promise 1 anywhere. */
    private static void promise(String[] lines, String readme) {
        String part = readme;
        for (String line : lines) {
            Matcher signature = SIGNATURE.matcher(line);
            String words = line;
            if (signature.matches()) {
                words = signature.group(3);
                if (!signature.group(1).equals("BuildingPoints()")) {
                    part = below("### `" + signature.group(1) + "`\n", readme);
                }
            }
            if (!words.isEmpty() && !words.startsWith("Promise ")) {
                due.sentence(lines[0], words);
                due.is("is in README.md", oneLine(part).contains(words));
            }
        }
    }

    private static String below(String heading, String readme) {
        int start = readme.indexOf(heading);
        due.is(heading.trim() + " is in README.md", start >= 0);
        return start < 0 ? "" : readme.substring(start + heading.length()).split("\n#")[0];
    }

    private static void example(String readme) {
        due.sentence("README.md", "Behind // stands what each call answers.");
        Matcher block = EXAMPLE.matcher(readme);
        due.is("there is an example", block.find());
        String[] lines = block.group(1).split("\n");
        due.is("first line of the example", lines[0], "BuildingPoints x = new BuildingPoints();");
        BuildingPoints x = new BuildingPoints();
        Map<String, Integer> named = new HashMap<>(Map.of("BuildingPoints.NOTHING", Due.NOTHING));
        for (String line : List.of(lines).subList(1, lines.length)) {
            if (!line.isEmpty()) {
                exampleLine(x, line, named);
            }
        }
    }

    private static void exampleLine(BuildingPoints x, String line, Map<String, Integer> named) {
        Matcher call = EXAMPLE_LINE.matcher(line);
        if (!call.matches()) {
            due.is(line, "no call", "a call");
            return;
        }
        int[] arguments = Stream.of(call.group(3).split(", ")).filter(a -> !a.isEmpty())
                .mapToInt(a -> named.containsKey(a) ? named.get(a) : Integer.parseInt(a)).toArray();
        String answer = answer(x, call.group(2), arguments);
        if (call.group(1) != null) {
            named.put(call.group(1), Integer.valueOf(answer));
        }
        due.is(line, answer, call.group(4) == null ? "" : call.group(4));
    }

    private static String answer(BuildingPoints x, String call, int[] arguments) {
        try {
            int answer = Face.answer(x, call, arguments);
            switch (call) {
                case "end": return "";
                case "goesOn": return answer == 1 ? "true" : "false";
                default: return answer == Due.NOTHING ? "NOTHING" : "" + answer;
            }
        } catch (RuntimeException e) {
            return e.getClass().getSimpleName();
        }
    }

    private static void tests(String readme) throws IOException {
        due.sentence("README.md", "what it tests");
        List<String> names;
        try (Stream<Path> files = Files.list(TESTS)) {
            names = files.map(file -> file.getFileName().toString())
                    .filter(name -> name.endsWith("Test.java")).collect(Collectors.toList());
        }
        for (String name : names) {
            String row = "| `" + name.replace(".java", "") + "` |";
            due.is(row + " is in README.md", readme.contains(row));
        }
    }
}
