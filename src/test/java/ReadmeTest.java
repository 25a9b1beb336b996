import java.io.IOException;
import java.lang.reflect.Method;
import java.lang.reflect.Modifier;
import java.nio.file.Files;
import java.nio.file.Path;
import java.util.Arrays;
import java.util.List;
import java.util.regex.Matcher;
import java.util.regex.Pattern;
import java.util.stream.Stream;

/** That README.md says how the class is used: its calls answer as it says, and none is left out. */
public final class ReadmeTest {
    private static final Path README = Path.of("README.md");
    /** One or more calls, and behind them what the last one answers. */
    private static final Pattern ROW = Pattern.compile("(x\\.\\w+\\(.*;)\\s+// (-?\\d+)\\b.*");
    private static final Pattern CALL = Pattern.compile("x\\.(\\w+)\\(([-\\d, ]*)\\);");

    public static void main(String[] args) {
        Check.run(ReadmeTest.class);
    }

    static void theCallsAnswerAsItSays() throws Exception {
        Check.sentence("README.md", "All calls take and answer whole numbers, and none throws");
        SparseDishes x = new SparseDishes();
        int rows = 0;
        for (String line : exampleLines()) {
            if (line.isBlank() || line.equals("SparseDishes x = new SparseDishes();")) continue;
            Matcher row = ROW.matcher(line);
            Check.holds("it is told what this answers: " + line, row.matches());
            if (!row.matches()) continue;
            Check.due(line, answerOfTheLast(x, row.group(1)), Integer.parseInt(row.group(2)));
            rows++;
        }
        Check.holds("there are rows", rows > 0);
    }

    static void eachCallAndConstantIsNamed() throws IOException {
        Check.sentence("README.md", "| call | takes | answers | refused, or none |");
        String text = Files.readString(README);
        for (Method call : SparseDishes.class.getDeclaredMethods()) {
            if (!Modifier.isPublic(call.getModifiers())) continue;
            int numbers = call.getParameterCount();
            String takes = numbers == 0 ? "\\(\\)" : "\\(\\w+(, \\w+){" + (numbers - 1) + "}\\)";
            Check.holds(call.getName() + " has a row",
                Pattern.compile("(?m)^\\| `" + call.getName() + takes + "` \\|").matcher(text).find());
        }
        for (String name : List.of("UNKNOWN", "OUTSIDE", "STATE", "FULL", "NO", "NONE")) {
            Check.holds(name + " is named", text.contains("`" + name + "`"));
        }
    }

    static void eachTestIsNamed() throws IOException {
        Check.sentence("README.md", "| tests | what they are for |");
        String text = Files.readString(README);
        List<String> names = testNames();
        Check.holds("there are tests", !names.isEmpty());
        for (String name : names) {
            boolean amongOthers = name.compareTo("Promise01NewTest") > 0 && name.compareTo("Promise20ToldTest") < 0;
            Check.holds(name + " is named", amongOthers || text.contains("`" + name + "`"));
        }
    }

    private static List<String> exampleLines() throws IOException {
        Matcher block = Pattern.compile("(?s)```java\n(.*?)```").matcher(Files.readString(README));
        Check.holds("there is an example", block.find());
        return block.group(1).lines().toList();
    }

    private static int answerOfTheLast(SparseDishes x, String calls) throws ReflectiveOperationException {
        int answer = 0;
        Matcher call = CALL.matcher(calls);
        while (call.find()) answer = answerOf(x, call.group(1), numbers(call.group(2)));
        return answer;
    }

    private static Object[] numbers(String list) {
        if (list.isBlank()) return new Object[0];
        return Stream.of(list.split(", ")).map(Integer::valueOf).toArray();
    }

    private static int answerOf(SparseDishes x, String name, Object[] numbers) throws ReflectiveOperationException {
        Class<?>[] types = new Class<?>[numbers.length];
        Arrays.fill(types, int.class);
        return (int) SparseDishes.class.getMethod(name, types).invoke(x, numbers);
    }

    private static List<String> testNames() throws IOException {
        try (Stream<Path> found = Files.list(Path.of("src/test/java"))) {
            return found.map(file -> file.getFileName().toString()).filter(name -> name.endsWith("Test.java"))
                .map(name -> name.substring(0, name.length() - ".java".length())).sorted().toList();
        }
    }
}
