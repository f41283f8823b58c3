import java.io.File;
import java.io.IOException;
import java.nio.file.Files;
import java.nio.file.Path;
import java.util.ArrayList;
import java.util.List;
import java.util.regex.Matcher;
import java.util.regex.Pattern;

/** README.md says how to use the class by the document's own examples, and names every test. */
public final class ReadmeTest {
    private static final Pattern ROW = Pattern.compile("web\\.(\\w+\\([^)]*\\)); +// (.+)");

    private ReadmeTest() {
    }

    public static void main(String[] args) throws IOException {
        String readme = Files.readString(Path.of("README.md"));
        List<List<String>> examples = examples(readme);
        Check.due("the examples", examples, Document.examples());
        for (List<String> rows : examples) {
            LetterWeb web = new LetterWeb();
            for (String row : rows) {
                String[] parts = row.split(" = ");
                Check.due(row, String.valueOf(Script.ask(web, Script.read(parts[0]))), parts[1].replace("'", ""));
            }
            if (rows == examples.get(examples.size() - 1)) {
                checkThrown(readme, web);
            }
        }
        Check.due("the one command", readme.contains("```sh\n.ci/run\n```"), true);
        for (File test : new File("src/test/java").listFiles((folder, name) -> name.endsWith("Test.java"))) {
            String name = test.getName().replace(".java", "");
            Check.due("names " + name, readme.contains("- `" + name + "`:"), true);
        }
        Check.end();
    }

    /** The rows of the example, told as "name(arguments) = result"; each new object begins another one. */
    private static List<List<String>> examples(String readme) {
        List<List<String>> examples = new ArrayList<>();
        int begin = readme.indexOf("```java");
        for (String line : readme.substring(begin, readme.indexOf("```\n", begin + 1)).lines().toList()) {
            Matcher row = ROW.matcher(line);
            if (line.contains("new LetterWeb()")) {
                examples.add(new ArrayList<>());
            } else if (row.matches()) {
                examples.get(examples.size() - 1).add(row.group(1) + " = " + row.group(2));
            } else {
                Check.due("a line of the example", line.matches("|```java|// .*"), true);
            }
        }
        return examples;
    }

    /** The calls that README tells to throw behind the last example. */
    private static void checkThrown(String readme, LetterWeb web) {
        Matcher told = Pattern.compile("`web\\.(\\w+\\([^)]*\\))` throws `(\\w+)`").matcher(readme.replaceAll("\\s+", " "));
        int calls = 0;
        for (; told.find(); calls++) {
            Object got = Script.ask(web, Script.read(told.group(1)));
            Check.due(told.group(1), got instanceof Class<?> thrown ? thrown.getSimpleName() : got, told.group(2));
        }
        Check.due("calls that throw", calls, 2);
    }
}
