import java.io.IOException;
import java.lang.reflect.Method;
import java.lang.reflect.Modifier;
import java.nio.file.Files;
import java.nio.file.Path;
import java.util.ArrayList;
import java.util.Arrays;
import java.util.List;
import java.util.Set;
import java.util.TreeSet;
import java.util.regex.Matcher;
import java.util.regex.Pattern;
import java.util.stream.Collectors;
import java.util.stream.Stream;

/** README.md: its examples answer as it says that they do, and it names every call and every test. */
public final class ReadmeTest {
    private static final Check CHECK = new Check("ReadmeTest");
    private static final String NEW = "KeyFrames x = new KeyFrames();";
    /** A call, and behind it the answer; words behind the answer are for the reader. */
    private static final Pattern EXAMPLE = Pattern.compile(
            "x\\.(\\w+)\\((.*?)\\);(?: +// (throws \\w+|-?\\d+)(?:: .*)?)?");
    private static final Pattern TABLE_CALL = Pattern.compile("\\| `(\\w+ \\w+)\\((.*?)\\)` \\|.*");
    private static final Pattern TABLE_TEST = Pattern.compile("\\| (\\w+Test) \\|.*");

    public static void main(String[] args) throws IOException {
        List<String> lines = Files.readAllLines(Path.of("README.md"));
        Set<String> shown = new TreeSet<>();
        for (List<String> example : examples(lines)) {
            shown.addAll(follow(example));
        }
        CHECK.text("calls in the examples", shown.toString(), new TreeSet<>(Call.names()).toString());
        CHECK.text("calls in the table", callsInTheTable(lines).toString(), callsOfTheFace().toString());
        CHECK.text("tests in the table", testsInTheTable(lines).toString(), testsInTheProject().toString());
        CHECK.isTrue("NONE", lines.stream().anyMatch(line -> line.startsWith("`NONE` is " + KeyFrames.NONE + ".")));
        CHECK.close();
    }

    private static List<List<String>> examples(List<String> lines) {
        List<List<String>> examples = new ArrayList<>();
        boolean inside = false;
        for (String line : lines) {
            if (line.equals("```java")) {
                examples.add(new ArrayList<>());
                inside = true;
            } else if (line.startsWith("```")) {
                inside = false;
            } else if (inside) {
                examples.get(examples.size() - 1).add(line);
            }
        }
        CHECK.isTrue("there are examples", examples.size() >= 3);
        return examples;
    }

    /** Makes an example's calls; answers their names. */
    private static Set<String> follow(List<String> example) {
        CHECK.text("the first line", example.get(0), NEW);
        KeyFrames frames = new KeyFrames();
        Set<String> names = new TreeSet<>();
        for (String line : example.subList(1, example.size())) {
            Matcher matcher = EXAMPLE.matcher(line);
            CHECK.isTrue("a call and its answer: " + line, matcher.matches());
            if (matcher.matches()) {
                Call call = new Call(matcher.group(1), numbers(matcher.group(2)));
                String due = matcher.group(3) == null ? Call.NOTHING : matcher.group(3);
                CHECK.text(call.toString(), call.answeredBy(frames), due);
                names.add(call.name());
            }
        }
        return names;
    }

    private static int[] numbers(String text) {
        return text.isEmpty() ? new int[0]
                : Arrays.stream(text.split(", ")).mapToInt(number -> Long.decode(number).intValue()).toArray();
    }

    private static Set<String> callsInTheTable(List<String> lines) {
        Set<String> calls = new TreeSet<>();
        for (String line : lines) {
            Matcher matcher = TABLE_CALL.matcher(line);
            if (matcher.matches()) {
                // Of "int many" the type.
                String types = matcher.group(2).replaceAll("(\\w+) \\w+", "$1");
                calls.add(matcher.group(1) + "(" + types + ")");
            }
        }
        return calls;
    }

    private static Set<String> callsOfTheFace() {
        Set<String> calls = new TreeSet<>();
        for (Method method : KeyFrames.class.getDeclaredMethods()) {
            if (Modifier.isPublic(method.getModifiers())) {
                String types = Arrays.stream(method.getParameterTypes()).map(Class::getName)
                        .collect(Collectors.joining(", "));
                calls.add(method.getReturnType() + " " + method.getName() + "(" + types + ")");
            }
        }
        return calls;
    }

    private static Set<String> testsInTheTable(List<String> lines) {
        return lines.stream().map(TABLE_TEST::matcher).filter(Matcher::matches).map(matcher -> matcher.group(1))
                .collect(Collectors.toCollection(TreeSet::new));
    }

    private static Set<String> testsInTheProject() throws IOException {
        try (Stream<Path> files = Files.list(Path.of("src/test/java"))) {
            return files.map(file -> file.getFileName().toString()).filter(name -> name.endsWith("Test.java"))
                    .map(name -> name.substring(0, name.length() - 5)).collect(Collectors.toCollection(TreeSet::new));
        }
    }
}
