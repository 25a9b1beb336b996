import java.io.IOException;
import java.nio.file.Files;
import java.nio.file.Path;
import java.util.ArrayList;
import java.util.LinkedHashMap;
import java.util.List;
import java.util.Map;
import java.util.regex.Matcher;
import java.util.regex.Pattern;
import java.util.stream.Stream;

/** That the words which the tests name are the document's, and that each word of the document is named by a test. */
public final class SentencesTest {
    private static final Path DOCUMENT = Path.of("../shared/DOC.md");
    private static final Path LANGUAGE = Path.of("../shared/LANGUAGE.md");
    private static final Path README = Path.of("README.md");
    private static final Path TESTS = Path.of("src/test/java");
    private static final String LITERAL = "\"(?:[^\"\\\\]|\\\\.)*\"";
    /** A text, or the name of one, or several of them put together. */
    private static final String PIECE = "(?:" + LITERAL + "|[A-Z_0-9]+)";
    private static final String TEXT = PIECE + "(?:\\s*\\+\\s*" + PIECE + ")*";
    private static final Pattern NAMED = Pattern.compile(
        "Check\\.sentence\\(\\s*(" + LITERAL + "),\\s*(" + TEXT + ")\\s*\\);");
    private static final Pattern CONSTANT = Pattern.compile(
        "private static final String ([A-Z_0-9]+) =\\s*(" + TEXT + ")\\s*;");
    /** What only says where a call stands in the interface, or how a promise is called, is nothing to be tested. */
    private static final String NO_SENTENCES =
        "Ahead of the calls [^.]*---- [^.]*\\.|`[A-Za-z ]*\\([a-z, ]*\\)`:|```(text)?";

    /** What a test names: where the document says it, and its words there. */
    private record Named(String where, String words) {
    }

    public static void main(String[] args) {
        Check.run(SentencesTest.class);
    }

    static void eachSentenceThatATestNamesIsTheDocuments() throws IOException {
        Check.sentence("SentencesTest", "each sentence that a test names is there");
        Map<String, String> sections = sections();
        String language = oneLine(Files.readString(LANGUAGE));
        sections.put("README.md", oneLine(Files.readString(README)));
        for (Named named : allNamed()) {
            if (named.where().equals("SentencesTest")) continue;
            String says = named.where().startsWith("LANGUAGE.md") ? language : sections.getOrDefault(named.where(), "");
            Check.holds(named.where() + " says \"" + named.words() + "\"", says.contains(named.words()));
        }
    }

    static void eachTestIsSeenHere() throws IOException {
        Check.sentence("SentencesTest", "no sentence is named in a way that is overlooked here");
        for (Path file : files()) {
            String code = Files.readString(file);
            long calls = Pattern.compile("^ +Check\\.sentence\\(", Pattern.MULTILINE).matcher(code).results().count();
            Check.due(file + ": sentences", NAMED.matcher(code).results().count(), calls);
        }
    }

    static void eachSentenceOfTheDocumentIsNamedByATest() throws IOException {
        Check.sentence("SentencesTest", "each sentence of the Terms and of the promises is named by a test");
        List<Named> all = allNamed();
        sections().forEach((where, says) -> {
            if (!where.startsWith("Terms") && !where.startsWith("Promise")) return;
            String rest = says;
            for (Named named : all) {
                if (named.where().equals(where)) rest = blank(rest, named.words(), says);
            }
            Check.holds(where + " has nothing that no test names, but: " + rest.trim(),
                rest.replaceAll(NO_SENTENCES, "").isBlank());
        });
    }

    /** These words are blanked wherever the document says them, so that what is left keeps its place. */
    private static String blank(String rest, String words, String says) {
        StringBuilder left = new StringBuilder(rest);
        for (int at = says.indexOf(words); at >= 0; at = says.indexOf(words, at + 1)) {
            left.replace(at, at + words.length(), " ".repeat(words.length()));
        }
        return left.toString();
    }

    /** By "What it is", "The public face", "Terms", "Terms 1" to "Terms 4", "Promise 1" to "Promise 20". */
    private static Map<String, String> sections() throws IOException {
        Map<String, String> sections = new LinkedHashMap<>();
        for (String part : Files.readString(DOCUMENT).split("(?m)^## |^(?=======+ [1-4] )")) {
            String head = part.lines().findFirst().orElse("");
            Matcher promise = Pattern.compile("(Promise \\d+):.*").matcher(head);
            Matcher terms = Pattern.compile("=+ ([1-4]) ").matcher(head);
            if (promise.matches()) sections.put(promise.group(1), oneLine(part.substring(head.length())));
            else if (terms.lookingAt()) sections.merge("Terms " + terms.group(1),
                oneLine(part.substring(terms.end())), (a, b) -> a + " " + b);
            else sections.put(head, oneLine(part.substring(head.length())));
        }
        return sections;
    }

    private static String oneLine(String text) {
        return text.replaceAll("\\s+", " ").trim();
    }

    private static List<Path> files() throws IOException {
        try (Stream<Path> found = Files.list(TESTS)) {
            return found.filter(file -> file.toString().endsWith("Test.java")).sorted().toList();
        }
    }

    private static List<Named> allNamed() throws IOException {
        List<Named> all = new ArrayList<>();
        for (Path file : files()) {
            String code = Files.readString(file);
            Map<String, String> constants = new LinkedHashMap<>();
            Matcher constant = CONSTANT.matcher(code);
            while (constant.find()) constants.put(constant.group(1), valueOf(constant.group(2), constants));
            Matcher named = NAMED.matcher(code);
            while (named.find()) {
                all.add(new Named(valueOf(named.group(1), constants), valueOf(named.group(2), constants)));
            }
        }
        return all;
    }

    private static String valueOf(String text, Map<String, String> constants) {
        StringBuilder value = new StringBuilder();
        Matcher piece = Pattern.compile(PIECE).matcher(text);
        while (piece.find()) {
            String it = piece.group();
            if (it.startsWith("\"")) value.append(it.substring(1, it.length() - 1).replace("\\\"", "\""));
            else value.append(constants.getOrDefault(it, "?" + it));
        }
        return value.toString();
    }
}
