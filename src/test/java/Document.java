import java.io.IOException;
import java.io.UncheckedIOException;
import java.nio.file.Files;
import java.nio.file.Path;
import java.util.ArrayList;
import java.util.List;
import java.util.Set;
import java.util.TreeSet;
import java.util.regex.Matcher;
import java.util.regex.Pattern;

/** The document's own words, so that each test of a sentence names it and no sentence is left without a test. */
final class Document {
    private static final String RAW = read();
    private static final String TEXT = RAW.replaceAll("\\s+", " ");
    private static final int TERMS = TEXT.indexOf("## Terms") + "## Terms".length();
    private static final int EXAMPLES = TEXT.indexOf("Examples: each one begins");
    private static final boolean[] SAID = new boolean[TEXT.length()];
    private static final Set<String> LINES = new TreeSet<>();

    private Document() {
    }

    private static String read() {
        try {
            return Files.readString(Path.of("../shared/DOC.md"));
        } catch (IOException thrown) {
            throw new UncheckedIOException(thrown);
        }
    }

    /** The calls of each example, told as "name(arguments) = result". */
    static List<List<String>> examples() {
        String text = TEXT.substring(EXAMPLES, TEXT.indexOf("Ahead of the calls", EXAMPLES));
        List<List<String>> examples = new ArrayList<>();
        for (String example : text.split(" - ")) {
            List<String> calls = new ArrayList<>();
            Matcher call = Pattern.compile("(\\w+\\([^)]*\\)) =(?: ```text)? (-?[\\w']+)").matcher(example);
            while (call.find()) {
                calls.add(call.group(1) + " = " + call.group(2));
            }
            if (!calls.isEmpty()) {
                examples.add(calls);
            }
        }
        return examples;
    }

    /** Begins the test of words that stand ahead of the promises. */
    static void said(String words) {
        Check.about(words);
        int end = TEXT.indexOf("## Promise 1:");
        int at = TEXT.indexOf(words);
        Check.due("stands in the document", at >= 0 && at < end, true);
        for (; at >= 0 && at < end; at = TEXT.indexOf(words, at + 1)) {
            for (int index = at; index < at + words.length(); index++) {
                SAID[index] = true;
            }
        }
    }

    /** Begins the test of whole lines of a promise. */
    static void said(int promise, String... lines) {
        Check.about("promise " + promise + ", " + lines[0]);
        for (String line : lines) {
            Check.due("stands in the document: " + line, linesOf(promise).contains(line), true);
            LINES.add(promise + line);
        }
    }

    private static List<String> linesOf(int promise) {
        int begin = RAW.indexOf("## Promise " + promise + ":");
        int end = RAW.indexOf("\n## ", begin);
        String section = RAW.substring(begin, end < 0 ? RAW.length() : end);
        return section.lines().filter(line -> line.matches("(- `|Returns |Throws ).*")).toList();
    }

    /** Looks whether a test has begun for all that 'Terms' and the promises say. */
    static void dueAllSaid() {
        Check.about("the document");
        StringBuilder left = new StringBuilder();
        for (int index = TERMS; index < EXAMPLES; index++) {
            left.append(SAID[index] ? ' ' : TEXT.charAt(index));
        }
        Check.due("terms that no test is of", left.toString().trim(), "");
        for (int promise = 1; promise <= 42; promise++) {
            for (String line : linesOf(promise)) {
                Check.due("promise " + promise + " has a test of: " + line, LINES.contains(promise + line), true);
            }
        }
    }
}
