import java.util.List;

/** Each sentence of the document, named by its own words, with the cases at its edges; none may be left out. */
public final class SentenceTest {
    private SentenceTest() {
    }

    public static void main(String[] args) {
        TermsSentences.all();
        PromiseSentences.all();
        examples();
        Document.dueAllSaid();
        Check.end();
    }

    /** The examples as the document has them. */
    private static void examples() {
        Check.about("example");
        List<List<String>> examples = Document.examples();
        Check.due("how many", examples.size(), 4);
        for (List<String> calls : examples) {
            LetterWeb web = new LetterWeb();
            for (String call : calls) {
                String[] parts = call.split(" = ");
                Check.due(call, String.valueOf(Script.ask(web, Script.read(parts[0]))), parts[1].replace("'", ""));
            }
            Check.due("calls", calls.size() > 6, true);
        }
    }
}
