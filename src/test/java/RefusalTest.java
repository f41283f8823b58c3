import java.util.ArrayList;
import java.util.List;
import java.util.NoSuchElementException;

/**
 * Calls that throw, in five states from empty to full: each throws what the document names first, and behind it the
 * object answers and takes all calls as one does that never had the refused call.
 */
public final class RefusalTest {
    private static final Class<?> INDEX = IndexOutOfBoundsException.class;
    private static final Class<?> ARGUMENT = IllegalArgumentException.class;
    private static final Class<?> STATE = IllegalStateException.class;
    private static final Class<?> UNSUPPORTED = UnsupportedOperationException.class;
    private static final Class<?> ELEMENT = NoSuchElementException.class;
    private static final Class<?> ARITHMETIC = ArithmeticException.class;
    // So many calls are asked of one object at most, behind those of its script and the refused one.
    private static final int CALLS_LEFT = 380;
    // Person -1 stands for all letters here.
    private static final String OF_PERSON = "sell(*H, *H, *P, 1)";

    // *P a person, *C a place, *L a letter, *F a fact, *H a holder; what else a call needs stands as it is.
    private static final String[] CALLS = {"route(*C, *C, 1, 1)", "letter(*P, *P, *C, *C)", "answer(*L, *L)", "cross(*L, *L)",
        "enclose(*L, *L)", "mention(*L, *L)", "lost(*L, *P, *P)", "isLost(*L)", "personOf(*L, true)", "personOf(*L, false)",
        "date(*L, 5, 'n', 1)", "undate(*L)", "belief(*L)", "earliest(*L, true)", "earliest(*L, false)", "latest(*L, true)",
        "latest(*L, false)", "canBe(*L, true, 5)", "canBe(*L, false, 5)", "order(*L, *L)", "fact(*P, 5)", "tell(*L, *F)",
        "show(*L, *P)", "knows(*P, *F)", "chain(*P, *F)", "chainAt(*P, *F, 0)", "priority(*F, *P, *P)", "put(*L, *H)", "holderOf(*L)",
        "held(*H)", "heldAt(*H, 0)", "sell(*H, *H, -1, 1)", OF_PERSON, "numberOf(*L)", "broker(*P)", "silence(*P, *P)"};

    private final String name;
    private final Script script = new Script();
    private int persons;
    private int places;
    private int letters;
    private int facts;
    private int holders;
    private List<Object[]> questions;
    private List<Object[]> tellings;
    private List<Object> answers;
    private List<Object> told;

    private RefusalTest(String name) {
        this.name = name;
    }

    public static void main(String[] args) {
        RefusalTest empty = new RefusalTest("empty");
        empty.check(empty.refusedWithout());
        RefusalTest bare = new RefusalTest("without letters").people(3, 2).script("holder()", "fact(1, 7)");
        bare.check(bare.refusedWithout());
        RefusalTest undated = new RefusalTest("without dates").people(3, 2)
            .script("letter(0, 1, 0, 0)", "letter(1, 0, 0, 0)");
        undated.check(undated.refusedWithout());
        RefusalTest some = new RefusalTest("some").some();
        some.check(some.refusedOfSome());
        for (String next : new String[] {"answer(3, 2)", "cross(2, 3)", "enclose(3, 0)", "mention(3, 2)", "lost(1, 0, 1)",
            "letter(0, 1, 0, 0)", "date(2, 5, 'n', 1)", "undate(2)", "route(0, 0, 1, 1)", "publish()"}) {
            RefusalTest half = new RefusalTest("half refused, then " + next).half();
            half.checkHalves(Script.read(next));
        }
        RefusalTest full = new RefusalTest("full").full();
        full.check(full.refusedOfFull());
        Check.end();
    }

    // ---- states

    private RefusalTest script(String... calls) {
        script.thenAll(calls);
        for (String call : calls) {
            letters += call.startsWith("letter(") || call.startsWith("lost(") ? 1 : 0;
            facts += call.startsWith("fact(") ? 1 : 0;
            holders += call.startsWith("holder(") ? 1 : 0;
        }
        return this;
    }

    private RefusalTest people(int wantedPersons, int wantedPlaces) {
        for (; persons < wantedPersons; persons++) {
            script.then("person");
        }
        for (; places < wantedPlaces; places++) {
            script.then("place");
        }
        return this;
    }

    /** Something of everything, and nothing full: letter 6 is lost, letter 7 stands alone. */
    private RefusalTest some() {
        people(5, 3);
        script("route(0, 1, 2, 4)", "route(1, 0, 3, 3)", "route(0, 0, 1, 2)", "route(1, 2, 0, 99)", "letter(0, 1, 0, 1)",
            "letter(1, 0, 1, 0)", "letter(0, 1, 0, 1)", "letter(1, 2, 1, 2)", "letter(2, 3, 2, 2)", "letter(1, 0, 1, 0)");
        script("lost(0, 1, 0)", "letter(3, 4, 0, 0)", "answer(1, 0)", "cross(2, 5)", "enclose(4, 3)", "mention(3, 1)");
        script("date(0, 100, '?', 3)", "date(1, 105, 'n', 2)", "date(5, 300, 'o', 4)", "date(6, 995, '?', 1)",
            "date(3, 104, 'n', 1)");
        script("fact(0, 95)", "fact(2, 400)", "fact(3, 999)", "tell(0, 0)", "tell(1, 0)", "tell(3, 0)", "tell(3, 1)",
            "tell(4, 1)", "show(0, 2)", "show(3, 0)", "show(3, 4)");
        return script("holder()", "holder()", "holder()", "put(0, 0)", "put(3, 0)", "put(1, 1)", "put(4, 0)", "put(0, 0)",
            "publish()", "letter(2, 1, 2, 2)", "date(8, 200, 'n', 9)", "publish()", "letter(4, 0, 0, 0)");
    }

    /** Letters for which a crossing or an enclosure could hold in its first half only. */
    private RefusalTest half() {
        people(2, 1);
        return script("route(0, 0, 0, 9)", "letter(0, 1, 0, 0)", "letter(1, 0, 0, 0)", "letter(0, 1, 0, 0)", "letter(1, 0, 0, 0)",
            "route(0, 0, 20, 20)", "letter(1, 0, 0, 0)", "answer(1, 0)");
    }

    /** As much as there can be of everything: letter 11 is lost. */
    private RefusalTest full() {
        people(8, 6);
        script("route(0, 1, 0, 99)", "route(1, 0, 99, 99)", "route(5, 5, 2, 3)");
        for (int letter = 0; letter < 11; letter++) {
            int writer = letter % 8;
            script("letter(" + writer + ", " + (writer + 1) % 8 + (letter % 3 == 0 ? ", 0, 1)" : ", 5, 5)"));
            if (letter < 7) {
                script("date(" + letter + ", " + 100 * letter + (letter == 3 ? ", '?', 9)" : ", 'n', 1)"));
            }
        }
        script("lost(10, 7, 0)", "mention(8, 0)", "mention(11, 9)", "enclose(9, 1)", "mention(0, 8)");
        for (int fact = 0; fact < 5; fact++) {
            script("fact(" + fact + ", " + 50 * fact + ")", "tell(" + fact + ", " + fact + ")", "holder()");
            script("show(" + fact + ", 7)", "put(" + fact + ", 0)", "put(" + (fact + 5) + ", " + fact + ")");
        }
        return script("tell(1, 0)", "tell(2, 0)", "publish()");
    }

    // ---- refused calls, each with what is due

    private static void add(List<Object[]> rows, Class<?> due, String... calls) {
        for (String call : calls) {
            rows.add(new Object[] {due, Script.read(call)});
        }
    }

    /** All calls that name something which is not there, whatever else they name. */
    private List<Object[]> wrongIndexes() {
        List<Object[]> rows = new ArrayList<>();
        for (String call : CALLS) {
            for (int at = call.indexOf('*'); at >= 0; at = call.indexOf('*', at + 1)) {
                int count = count(call.charAt(at + 1));
                for (int wrong : new int[] {-1, count, 12, Integer.MIN_VALUE, Integer.MAX_VALUE}) {
                    if (wrong != -1 || !call.equals(OF_PERSON) || call.charAt(at + 1) != 'P') {
                        add(rows, INDEX, first(call.substring(0, at) + wrong + call.substring(at + 2)));
                    }
                }
            }
        }
        return rows;
    }

    private static String first(String call) {
        return call.replaceAll("\\*[PCLFH]", "0");
    }

    private int count(char kind) {
        switch (kind) {
            case 'P': return persons;
            case 'C': return places;
            case 'L': return letters;
            case 'F': return facts;
            case 'H': return holders;
            default: return -1;
        }
    }

    private List<Object[]> refusedWithout() {
        List<Object[]> rows = wrongIndexes();
        add(rows, ARITHMETIC, "sureShare()");
        if (letters == 0) {
            add(rows, ARITHMETIC, "meanWidth()");
        }
        if (places > 0) {
            add(rows, ARGUMENT, "route(0, 1, 5, 4)", "letter(0, 0, 0, 1)", "fact(0, 1000)");
            add(rows, UNSUPPORTED, "letter(0, 1, 0, 1)");
            add(rows, ELEMENT, "silence(0, 2)");
        }
        if (holders > 0) {
            add(rows, ARGUMENT, "sell(0, 0, -1, 1)");
            add(rows, ELEMENT, "heldAt(0, 0)", "chainAt(1, 0, 0)", "knows(0, 0)", "chain(0, 0)");
        }
        if (letters > 0) {
            add(rows, ARGUMENT, "answer(0, 0)", "date(0, 5, 'N', 1)", "mention(0, 0)");
            add(rows, UNSUPPORTED, "show(0, 0)", "cross(0, 1)");
            add(rows, ELEMENT, "belief(1)", "undate(1)", "holderOf(0)", "numberOf(0)");
        }
        return rows;
    }

    private List<Object[]> refusedOfSome() {
        List<Object[]> rows = wrongIndexes();
        add(rows, ARGUMENT, "route(0, 1, -1, 5)", "route(0, 1, 5, 100)", "route(0, 1, 5, 4)", "route(2, 0, 100, 100)",
            "letter(0, 0, 0, 1)", "letter(1, 1, 2, 0)", "answer(1, 0)", "answer(0, 0)", "answer(0, 3)", "answer(6, 1)",
            "cross(2, 5)", "cross(5, 2)", "cross(6, 6)", "cross(0, 4)", "enclose(3, 3)", "enclose(4, 3)", "enclose(4, 0)",
            "enclose(4, 6)", "enclose(6, 6)", "mention(3, 3)", "mention(3, 1)", "mention(0, 6)", "lost(0, 1, 1)",
            "date(2, -1, 'n', 1)", "date(2, 1000, 'n', 1)", "date(2, 5, 'n', 0)", "date(2, 5, 'n', 10)", "date(2, 5, 'm', 1)",
            "date(0, 1000, 'n', 1)", "date(0, 5, 'x', 1)", "fact(0, -1)", "fact(0, 1000)", "sell(0, 0, -1, 1)",
            "sell(0, 1, -1, 0)", "sell(0, 0, 0, -1)");
        add(rows, UNSUPPORTED, "letter(0, 1, 2, 0)", "letter(0, 1, 0, 2)", "answer(0, 1)", "answer(6, 0)", "answer(0, 6)", "cross(6, 2)", "cross(2, 6)", "answer(5, 2)",
            "answer(2, 5)", "cross(0, 1)", "cross(1, 0)", "enclose(6, 0)", "enclose(0, 6)", "mention(0, 1)", "mention(0, 3)",
            "mention(6, 3)", "date(0, 5, 'n', 1)", "tell(0, 0)", "tell(6, 0)", "tell(6, 2)", "show(0, 0)", "show(0, 1)",
            "show(0, 2)", "show(6, 1)", "show(6, 2)", "put(6, 0)", "put(6, 2)");
        add(rows, ELEMENT, "undate(2)", "belief(2)", "undate(9)", "knows(4, 2)", "chain(1, 2)", "chainAt(1, 2, 0)",
            "chainAt(1, 0, 1)", "chainAt(1, 0, -1)", "chainAt(0, 0, 0)", "holderOf(6)", "holderOf(9)", "heldAt(0, 3)",
            "heldAt(2, 0)", "heldAt(0, -1)", "numberOf(9)", "silence(2, 4)", "silence(0, 0)", "silence(3, 4)");
        add(rows, INDEX, "letter(5, 5, 0, 1)", "letter(0, 0, 3, 0)", "route(3, 0, 5, 4)", "answer(10, 10)", "enclose(10, 10)",
            "mention(10, 10)", "lost(10, 1, 1)", "lost(0, 5, 5)", "date(10, 1000, 'x', 0)", "fact(5, 1000)", "tell(6, 3)",
            "show(6, 5)", "chainAt(5, 0, -1)", "chainAt(0, 3, -1)", "put(6, 3)", "heldAt(3, -1)", "sell(3, 3, -1, 0)",
            "sell(0, 0, 5, 0)", "sell(0, 0, -2, 0)", "silence(5, 5)", "priority(0, 5, 5)", "priority(3, 0, 0)");
        return rows;
    }

    private List<Object[]> refusedOfFull() {
        List<Object[]> rows = wrongIndexes();
        add(rows, STATE, "person()", "place()", "holder()", "letter(0, 1, 0, 1)", "letter(0, 1, 3, 3)", "lost(0, 0, 1)",
            "lost(11, 0, 1)", "date(7, 5, 'n', 1)", "date(11, 999, '?', 9)", "fact(0, 0)", "fact(7, 999)");
        add(rows, UNSUPPORTED, "letter(0, 1, 0, 2)", "date(0, 5, 'n', 1)", "date(6, 5, 'n', 1)", "tell(11, 4)", "show(11, 4)",
            "show(4, 7)", "tell(4, 4)", "put(11, 4)", "enclose(0, 11)");
        add(rows, ARGUMENT, "letter(7, 7, 0, 1)", "letter(7, 7, 0, 2)", "lost(0, 7, 7)", "date(7, 1000, 'n', 1)",
            "date(7, 5, 'n', 10)", "date(7, 5, 'N', 1)", "date(0, 5, 'n', 0)", "fact(0, 1000)", "sell(4, 4, 7, 1)",
            "sell(0, 4, 7, 0)");
        add(rows, INDEX, "letter(8, 8, 0, 2)", "letter(7, 7, 6, 0)", "letter(7, 7, 0, 6)", "lost(12, 7, 7)", "lost(0, 8, 8)",
            "date(12, 1000, 'N', 0)", "fact(8, 1000)", "tell(11, 5)", "show(11, 8)", "put(11, 5)", "sell(5, 5, -1, 0)",
            "sell(4, 4, 8, 0)", "chainAt(8, 0, -1)", "chainAt(0, 5, -1)", "heldAt(5, -1)");
        add(rows, ELEMENT, "undate(7)", "belief(11)", "holderOf(11)", "heldAt(0, 12)", "silence(0, 7)", "chainAt(1, 0, 4)",
            "knows(6, 0)");
        return rows;
    }

    // ---- what is compared

    private void check(List<Object[]> refused) {
        Check.due(name + ": calls of one object at most", script.size() + CALLS_LEFT + 2 <= 512, true);
        questions = questions();
        tellings = tellings();
        answers = answersTo(questions, null, false);
        told = answersTo(tellings, null, false);
        compare(name + " as by the model, ", questions, answersTo(questions, null, true), answers);
        compare(name + " as by the model, telling ", tellings, answersTo(tellings, null, true), told);
        for (Object[] one : refused) {
            Object[] row = (Object[]) one[1];
            String text = name + ": " + Script.textOf(row);
            Check.due(text, Script.ask(script.made(), row), one[0]);
            compare(text + ", then ", questions, answersTo(questions, row, false), answers);
            compare(text + ", then telling ", tellings, answersTo(tellings, row, false), told);
        }
        checkValid();
    }

    /** What a refused call could have begun must not come to hold with the next call that is taken. */
    private void checkHalves(Object[] next) {
        questions = questions();
        answers = new ArrayList<>();
        for (String refused : new String[] {"price()", "cross(0, 1)", "enclose(0, 4)", "enclose(1, 4)"}) {
            LetterWeb web = script.made();
            Object first = Script.ask(web, Script.read(refused));
            Script.ask(web, next);
            List<Object> got = new ArrayList<>();
            for (Object[] row : questions) {
                got.add(Script.ask(web, row));
            }
            if (answers.isEmpty()) {
                answers = got;
            } else {
                Check.due(name + ": " + refused, first, UNSUPPORTED);
                compare(name + ": " + refused + ", then ", questions, got, answers);
            }
        }
    }

    private static void compare(String text, List<Object[]> rows, List<Object> got, List<Object> want) {
        for (int at = 0; at < rows.size(); at++) {
            if (!want.get(at).equals(got.get(at))) {
                Check.due(text + Script.textOf(rows.get(at)), got.get(at), want.get(at));
            }
        }
        Check.due(text + "all", got.size(), want.size());
    }

    /** Numbers that are there, the first and the last, are never refused as not there. */
    private void checkValid() {
        if (persons * places * letters * facts * holders == 0) {
            return;
        }
        for (String call : CALLS) {
            String first = first(call);
            String last = call;
            for (char kind : "PCLFH".toCharArray()) {
                last = last.replace("*" + kind, String.valueOf(count(kind) - 1));
            }
            Check.due(name + ": " + first + " is there", Script.ask(script.made(), Script.read(first)) == INDEX, false);
            Check.due(name + ": " + last + " is there", Script.ask(script.made(), Script.read(last)) == INDEX, false);
        }
    }

    /** The answers of as many fresh objects as are needed, each of which had the refused call, if there is one. */
    private List<Object> answersTo(List<Object[]> rows, Object[] refused, boolean ofModel) {
        List<Object> got = new ArrayList<>();
        Object web = null;
        for (int at = 0; at < rows.size(); at++) {
            if (at % CALLS_LEFT == 0) {
                web = ofModel ? new PlainModel() : new LetterWeb();
                script.play(web);
                if (refused != null) {
                    Script.ask(web, refused);
                }
            }
            got.add(Script.ask(web, rows.get(at)));
        }
        return got;
    }

    private List<Object[]> questions() {
        List<Object[]> rows = new ArrayList<>();
        for (String call : new String[] {"price", "readings", "sureShare", "meanWidth", "checksum", "isSound"}) {
            rows.add(Script.row(call));
        }
        for (int letter = 0; letter < letters; letter++) {
            for (String call : new String[] {"isLost", "belief", "holderOf", "numberOf"}) {
                rows.add(Script.row(call, letter));
            }
            for (boolean either : new boolean[] {true, false}) {
                rows.add(Script.row("personOf", letter, either));
                rows.add(Script.row("earliest", letter, either));
                rows.add(Script.row("latest", letter, either));
                rows.add(Script.row("canBe", letter, either, 104));
            }
            for (int other = 0; other < letters; other++) {
                rows.add(Script.row("order", letter, other));
            }
        }
        for (int person = 0; person < persons; person++) {
            rows.add(Script.row("broker", person));
            for (int other = 0; other <= person; other++) {
                rows.add(Script.row("silence", person, other));
            }
            for (int fact = 0; fact < facts; fact++) {
                rows.add(Script.row("knows", person, fact));
                rows.add(Script.row("chain", person, fact));
                rows.add(Script.row("chainAt", person, fact, 0));
                rows.add(Script.row("priority", fact, person, 0));
            }
        }
        for (int holder = 0; holder < holders; holder++) {
            rows.add(Script.row("held", holder));
            rows.add(Script.row("heldAt", holder, 0));
            rows.add(Script.row("heldAt", holder, 2));
        }
        return rows;
    }

    /** Calls that show what questions don't: which routes there are, what is told already, how much there is room for. */
    private List<Object[]> tellings() {
        List<Object[]> rows = new ArrayList<>();
        for (int letter = 0; letter < letters; letter++) {
            for (int fact = 0; fact < facts; fact++) {
                rows.add(Script.row("tell", letter, fact));
            }
            for (int person = 0; person < persons; person++) {
                rows.add(Script.row("show", letter, person));
            }
            for (int other = 0; other < letters; other++) {
                for (String call : new String[] {"mention", "answer", "cross", "enclose"}) {
                    rows.add(Script.row(call, letter, other));
                }
            }
        }
        for (int from = 0; from < places; from++) {
            for (int to = 0; to < places; to++) {
                rows.add(Script.row("letter", 0, persons - 1, from, to));
                rows.add(Script.row("route", from, to, 1, 1));
            }
        }
        for (int letter = 0; letter < letters; letter++) {
            rows.add(Script.row("date", letter, 500, 'n', 1));
            rows.add(Script.row("put", letter, 0));
            rows.add(Script.row("undate", letter));
        }
        rows.add(Script.row("sell", 0, 1, -1, 12));
        rows.add(Script.row("publish"));
        for (int time = 0; time < 12; time++) {
            rows.add(Script.row("lost", 0, 0, 1));
            rows.add(Script.row("date", 0, 500, 'n', 1));
            rows.add(Script.row("fact", 0, 5));
            rows.add(Script.row("holder"));
            rows.add(Script.row("place"));
            rows.add(Script.row("person"));
        }
        for (int at = rows.size(); at > 0; at -= 20) {
            rows.add(at, Script.row("checksum"));
        }
        return rows;
    }
}
