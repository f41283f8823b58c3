import java.math.BigInteger;
import java.util.List;
import java.util.NoSuchElementException;

/** The lines of the promises, each with the cases at its edges; numbers of things that are not there are in Indexes. */
final class PromiseSentences extends Webs {
    private static final String NO_LETTER = "Throws `IndexOutOfBoundsException` if there is no such letter";
    private static final String NEITHER_LETTER = NO_LETTER + ", for either";
    private static final String NO_FACT = "Throws `IndexOutOfBoundsException` if there is no such person or fact";
    private static final String LETTER = "- `letter`: the letter";
    private static final String OTHER = "- `other`: the other one";
    private static final String NOT_THESE = "Throws `IllegalArgumentException` if they are not of these persons, or it is told already";
    private static final String LOST = "Throws `UnsupportedOperationException` if one was lost, or it leaves no days at all";
    private static final String IS_WRITING = "- `isWriting`: whether that of writing is meant, otherwise of arrival";

    private PromiseSentences() {
    }

    static void all() {
        newObject();
        persons();
        places();
        routes();
        letters();
        answers();
        crossings();
        enclosures();
        mentions();
        lostLetters();
        personsOf();
        dates();
        calendars();
        undates();
        prices();
        ranges();
        orders();
        readings();
        facts();
        tellings();
        showings();
        chains();
        chainsAt();
        priorities();
        holders();
        puts();
        rows();
        sales();
        numbersOf();
        networks();
        shares();
        widths();
        checksums();
        soundness();
    }

    private static void newObject() {
        Check.about("promise 1");
        LetterWeb web = new LetterWeb();
        Check.due("price", web.price(), 0);
        Check.due("readings", web.readings(), 1);
        Check.due("publish", web.publish(), 0);
        Check.due("checksum", web.checksum(), 7L);
        Check.due("isSound", web.isSound(), true);
        Check.dueThrow("sureShare", ARITHMETIC, web::sureShare);
        Check.dueThrow("meanWidth", ARITHMETIC, web::meanWidth);
        Check.due("person", web.person(), 0);
        Check.due("place", web.place(), 0);
        Check.due("holder", web.holder(), 0);
        Check.due("held", web.held(0), 0);
        Check.due("fact", web.fact(0, 0), 0);
        LetterWeb other = new LetterWeb();
        Check.dueThrow("another object has none of these", INDEX, () -> other.fact(0, 0));
        Check.dueThrow("nor its holder", INDEX, () -> other.held(0));
        Check.due("its own are from 0 on", other.person() + other.place() + other.holder(), 0);
    }

    private static void persons() {
        Document.said(2, "Throws `IllegalStateException` if there are 8", "Returns the number.");
        LetterWeb web = new LetterWeb();
        for (int person = 0; person < 8; person++) {
            Check.due("person", web.person(), person);
        }
        Check.dueThrow("a ninth", STATE, web::person);
        Check.dueThrow("a ninth again", STATE, web::person);
        Check.due("the eighth is there", web.broker(7), 0);
        Check.dueThrow("the ninth is not", INDEX, () -> web.broker(8));
    }

    private static void places() {
        Document.said(3, "Throws `IllegalStateException` if there are 6", "Returns its number.");
        LetterWeb web = new LetterWeb();
        for (int place = 0; place < 6; place++) {
            Check.due("place", web.place(), place);
        }
        Check.dueThrow("a seventh", STATE, web::place);
        Check.dueThrow("a seventh again", STATE, web::place);
        Check.due("the sixth is there", web.route(5, 5, 1, 1), 0);
        Check.dueThrow("the seventh is not", INDEX, () -> web.route(5, 6, 1, 1));
    }

    private static void routes() {
        Document.said(4, "Returns the least days before, -1 without one.", "- `from`: a place", "- `to`: another one, or the same");
        LetterWeb web = web(2, 6);
        for (int from = 0; from < 6; from++) {
            for (int to = 0; to < 6; to++) {
                int least = 10 * from + to;
                Check.due("at first " + from + " to " + to, web.route(from, to, least, 99), from == to ? 0 : -1);
            }
        }
        for (int from = 0; from < 6; from++) {
            for (int to = 0; to < 6; to++) {
                Check.due("again " + from + " to " + to, web.route(from, to, 0, 0), 10 * from + to);
            }
        }
        Check.due("a route of least 0 is one", web.route(0, 1, 5, 5), 0);
        Document.said(4, "Throws `IllegalArgumentException` if a number is out of range, or the most are less",
            "- `least`: the least days", "- `most`: the most, not less");
        int[] edges = {Integer.MIN_VALUE, -1, 0, 1, 98, 99, 100, Integer.MAX_VALUE};
        int before = 5;
        for (int least : edges) {
            for (int most : edges) {
                String name = least + " to " + most;
                if (least >= 0 && most <= 99 && least <= most) {
                    Check.due(name, web.route(0, 1, least, most), before);
                    before = least;
                } else {
                    Check.dueThrow(name, ARGUMENT, () -> web.route(0, 1, least, most));
                }
            }
        }
        Document.said(4, "Throws `IndexOutOfBoundsException` if there is no such place, for either");
        for (int places = 0; places <= 6; places++) {
            LetterWeb some = web(0, places);
            int[] wrong = {Integer.MIN_VALUE, -1, places, 6, Integer.MAX_VALUE};
            for (int place : wrong) {
                Check.dueThrow("from " + place, INDEX, () -> some.route(place, 0, 1, 1));
                Check.dueThrow("to " + place, INDEX, () -> some.route(0, place, 1, 1));
                Check.dueThrow("from " + place + " with wrong days", INDEX, () -> some.route(place, 0, 100, -1));
                Check.dueThrow("to " + place + " with wrong days", INDEX, () -> some.route(0, place, 100, -1));
            }
        }
    }

    private static void letters() {
        Document.said(5, "Throws `IndexOutOfBoundsException` if there is no such person or place, for any", "- `writer`: the writer",
            "- `from`: the writer's place", "- `to`: the reader's place", "Returns its number.");
        LetterWeb web = web(3, 2);
        for (int wrong : new int[] {Integer.MIN_VALUE, -1, 3, 8, Integer.MAX_VALUE}) {
            Check.dueThrow("writer " + wrong, INDEX, () -> web.letter(wrong, 0, 0, 0));
            Check.dueThrow("reader " + wrong, INDEX, () -> web.letter(0, wrong, 0, 0));
            Check.dueThrow("both persons " + wrong, INDEX, () -> web.letter(wrong, wrong, 0, 0));
            Check.dueThrow("writer, without a route " + wrong, INDEX, () -> web.letter(wrong, 0, 0, 1));
        }
        for (int wrong : new int[] {Integer.MIN_VALUE, -1, 2, 6, Integer.MAX_VALUE}) {
            Check.dueThrow("from " + wrong, INDEX, () -> web.letter(0, 1, wrong, 0));
            Check.dueThrow("to " + wrong, INDEX, () -> web.letter(0, 1, 0, wrong));
            Check.dueThrow("from and to " + wrong, INDEX, () -> web.letter(0, 1, wrong, wrong));
            Check.dueThrow("of one person from " + wrong, INDEX, () -> web.letter(0, 0, wrong, 0));
            Check.dueThrow("of one person to " + wrong, INDEX, () -> web.letter(0, 0, 0, wrong));
        }
        Document.said(5, "Throws `IllegalArgumentException` if both persons are the same", "- `reader`: another person");
        for (int person = 0; person < 3; person++) {
            int number = person;
            Check.dueThrow("person " + person, ARGUMENT, () -> web.letter(number, number, 1, 1));
            Check.dueThrow("person " + person + ", without a route", ARGUMENT, () -> web.letter(number, number, 0, 1));
        }
        Document.said(5, "Throws `UnsupportedOperationException` if there is no route");
        Check.dueThrow("forth", UNSUPPORTED, () -> web.letter(0, 1, 0, 1));
        web.route(0, 1, 0, 0);
        Check.due("forth, in no days", web.letter(0, 1, 0, 1), 0);
        Check.dueThrow("back", UNSUPPORTED, () -> web.letter(0, 1, 1, 0));
        Check.due("within the other place", web.letter(2, 1, 1, 1), 1);
        Document.said(5, "Throws `IllegalStateException` if there are 12");
        for (int letter = 2; letter < 12; letter++) {
            Check.due("letter", web.letter(0, 2, 0, 0), letter);
        }
        Check.dueThrow("a thirteenth", STATE, () -> web.letter(0, 1, 0, 0));
        Check.dueThrow("a thirteenth, without a route", UNSUPPORTED, () -> web.letter(0, 1, 1, 0));
        Check.dueThrow("a thirteenth, of one person", ARGUMENT, () -> web.letter(0, 0, 1, 0));
        Check.dueThrow("a thirteenth, to nobody", INDEX, () -> web.letter(3, 3, 1, 0));
    }

    private static void answers() {
        Document.said(6, "Returns how many it answers.", LETTER, OTHER);
        LetterWeb web = web(3, 2, "01", "01", "01", "10", "12", "10");
        Check.due("one", web.answer(3, 0), 1);
        Check.due("two", web.answer(3, 2), 2);
        Check.due("three", web.answer(3, 1), 3);
        Check.due("another one answers one", web.answer(5, 0), 1);
        Document.said(6, NOT_THESE);
        Check.dueThrow("told already", ARGUMENT, () -> web.answer(3, 2));
        Check.dueThrow("itself", ARGUMENT, () -> web.answer(3, 3));
        Check.dueThrow("of the same writer", ARGUMENT, () -> web.answer(3, 5));
        Check.dueThrow("of its reader to another one", ARGUMENT, () -> web.answer(4, 0));
        Check.dueThrow("to its reader from another one", ARGUMENT, () -> web.answer(0, 4));
        Document.said(6, LOST);
        Check.due("a lost one", web.lost(4, 0, 1), 6);
        Check.dueThrow("is answered", UNSUPPORTED, () -> web.answer(3, 6));
        Check.due("another lost one", web.lost(4, 1, 0), 7);
        Check.dueThrow("answers", UNSUPPORTED, () -> web.answer(7, 0));
        Check.dueThrow("both lost", UNSUPPORTED, () -> web.answer(7, 6));
        Check.dueThrow("lost, of other persons", ARGUMENT, () -> web.answer(7, 4));
        Check.dueThrow("lost, itself", ARGUMENT, () -> web.answer(7, 7));
        Check.dueThrow("no days are left", UNSUPPORTED, () -> web.answer(0, 3));
        Document.said(6, NEITHER_LETTER);
        for (int wrong : new int[] {Integer.MIN_VALUE, -1, 8, 12, Integer.MAX_VALUE}) {
            Check.dueThrow(wrong + " answers", INDEX, () -> web.answer(wrong, 6));
            Check.dueThrow(wrong + " is answered", INDEX, () -> web.answer(6, wrong));
            Check.dueThrow(wrong + " itself", INDEX, () -> web.answer(wrong, wrong));
        }
    }

    private static void crossings() {
        Document.said(7, "Returns how many letters it crossed.", LETTER, OTHER);
        LetterWeb web = web(3, 2, "01", "01", "01", "10", "12", "10");
        Check.due("one", web.cross(3, 0), 1);
        Check.due("two", web.cross(3, 2), 2);
        Check.due("this one has crossed one", web.cross(5, 0), 1);
        Check.due("three, named behind by another one", web.cross(1, 3), 1);
        Check.due("the third counts by now", web.cross(1, 5), 2);
        Document.said(7, NOT_THESE);
        Check.dueThrow("told already", ARGUMENT, () -> web.cross(3, 2));
        Check.dueThrow("told already, named behind", ARGUMENT, () -> web.cross(3, 1));
        Check.dueThrow("itself", ARGUMENT, () -> web.cross(3, 3));
        Check.dueThrow("of the same writer", ARGUMENT, () -> web.cross(3, 5));
        Check.dueThrow("of its reader to another one", ARGUMENT, () -> web.cross(4, 0));
        Check.dueThrow("to its reader from another one", ARGUMENT, () -> web.cross(0, 4));
        Document.said(7, LOST);
        Check.due("a lost one", web.lost(4, 0, 1), 6);
        Check.dueThrow("is crossed", UNSUPPORTED, () -> web.cross(3, 6));
        Check.dueThrow("crosses", UNSUPPORTED, () -> web.cross(6, 3));
        Check.due("another lost one", web.lost(4, 1, 0), 7);
        Check.dueThrow("both lost", UNSUPPORTED, () -> web.cross(7, 6));
        Check.dueThrow("lost, of other persons", ARGUMENT, () -> web.cross(7, 4));
        LetterWeb answered = web(2, 2, "01", "10");
        answered.answer(1, 0);
        Check.dueThrow("no days are left", UNSUPPORTED, () -> answered.cross(1, 0));
        Check.dueThrow("no days are left, the other way round", UNSUPPORTED, () -> answered.cross(0, 1));
        Document.said(7, NEITHER_LETTER);
        for (int wrong : new int[] {Integer.MIN_VALUE, -1, 8, 12, Integer.MAX_VALUE}) {
            Check.dueThrow(wrong + " crosses", INDEX, () -> web.cross(wrong, 6));
            Check.dueThrow(wrong + " is crossed", INDEX, () -> web.cross(6, wrong));
            Check.dueThrow(wrong + " itself", INDEX, () -> web.cross(wrong, wrong));
        }
    }

    private static void enclosures() {
        Document.said(8, "Returns how many are enclosed in that one.", LETTER, OTHER);
        LetterWeb web = web(3, 2, "01", "12", "20", "01", "02", "10");
        Check.due("one", web.enclose(1, 0), 1);
        Check.due("two", web.enclose(3, 0), 2);
        Check.due("one in another one", web.enclose(4, 3), 1);
        Check.due("three", web.enclose(2, 0), 3);
        Document.said(8, "Throws `IllegalArgumentException` if both are the same, or the letter is enclosed in one");
        Check.dueThrow("the same", ARGUMENT, () -> web.enclose(5, 5));
        Check.dueThrow("enclosed in that one", ARGUMENT, () -> web.enclose(1, 0));
        Check.dueThrow("enclosed in another one", ARGUMENT, () -> web.enclose(1, 5));
        Check.dueThrow("the same, and enclosed", ARGUMENT, () -> web.enclose(1, 1));
        Check.due("the outer one in one that is enclosed in it", web.enclose(0, 1), 1);
        Document.said(8, LOST);
        Check.due("a lost one", web.lost(0, 0, 1), 6);
        Check.dueThrow("is enclosed", UNSUPPORTED, () -> web.enclose(6, 5));
        Check.dueThrow("encloses", UNSUPPORTED, () -> web.enclose(5, 6));
        Check.dueThrow("lost, in itself", ARGUMENT, () -> web.enclose(6, 6));
        Check.dueThrow("an enclosed one in a lost one", ARGUMENT, () -> web.enclose(1, 6));
        web.route(0, 0, 3, 3);
        int slow = add(web, "01");
        Check.dueThrow("too slow", UNSUPPORTED, () -> web.enclose(5, slow));
        Check.due("slow enough", web.enclose(slow, 5), 1);
        Document.said(8, NEITHER_LETTER);
        for (int wrong : new int[] {Integer.MIN_VALUE, -1, 8, 12, Integer.MAX_VALUE}) {
            Check.dueThrow(wrong + " is enclosed", INDEX, () -> web.enclose(wrong, 6));
            Check.dueThrow(wrong + " encloses", INDEX, () -> web.enclose(6, wrong));
            Check.dueThrow(wrong + " in itself", INDEX, () -> web.enclose(wrong, wrong));
        }
    }

    private static void mentions() {
        Document.said(9, "Returns how many it mentions.", LETTER, OTHER);
        LetterWeb web = web(3, 2, "01", "12", "20", "01", "10");
        Check.due("one", web.mention(0, 1), 1);
        Check.due("two", web.mention(0, 2), 2);
        Check.due("a lost one", web.lost(0, 0, 1), 5);
        Check.due("four with the lost one", web.mention(0, 3), 4);
        Check.due("another one mentions the lost one", web.mention(1, 5), 1);
        Check.due("the lost one mentions", web.mention(5, 1), 1);
        Document.said(9, "Throws `IllegalArgumentException` if both are the same, or it is told already");
        Check.dueThrow("the same", ARGUMENT, () -> web.mention(3, 3));
        Check.dueThrow("the same lost one", ARGUMENT, () -> web.mention(5, 5));
        Check.dueThrow("told already", ARGUMENT, () -> web.mention(0, 2));
        Check.due("the other way round is not told", web.mention(2, 0), 1);
        Document.said(9, "Throws `UnsupportedOperationException` if it leaves no days at all");
        Check.due("an answer", web.answer(4, 0), 1);
        Check.dueThrow("the answered one mentions it", UNSUPPORTED, () -> web.mention(0, 4));
        Check.due("the answer mentions the answered one", web.mention(4, 0), 1);
        Document.said(9, NEITHER_LETTER);
        for (int wrong : new int[] {Integer.MIN_VALUE, -1, 6, 12, Integer.MAX_VALUE}) {
            Check.dueThrow(wrong + " mentions", INDEX, () -> web.mention(wrong, 0));
            Check.dueThrow(wrong + " is mentioned", INDEX, () -> web.mention(0, wrong));
            Check.dueThrow(wrong + " itself", INDEX, () -> web.mention(wrong, wrong));
        }
    }

    private static void lostLetters() {
        Document.said(10, "Returns the number of the lost one.", "- `letter`: the letter that mentions it",
            "- `writer`: the writer of the lost one");
        LetterWeb web = web(3, 2, "01");
        Check.due("lost", web.lost(0, 2, 1), 1);
        Check.due("by a lost one", web.lost(1, 0, 2), 2);
        Check.due("without any place or route", web.personOf(2, true), 0);
        Document.said(10, "Throws `IllegalArgumentException` if both persons are the same", "- `reader`: another person");
        for (int person = 0; person < 3; person++) {
            int number = person;
            Check.dueThrow("person " + person, ARGUMENT, () -> web.lost(0, number, number));
        }
        Document.said(10, "Throws `IndexOutOfBoundsException` if there is no such letter or person");
        for (int wrong : new int[] {Integer.MIN_VALUE, -1, 3, 8, 12, Integer.MAX_VALUE}) {
            Check.dueThrow("letter " + wrong, INDEX, () -> web.lost(wrong, 0, 0));
            Check.dueThrow("writer " + wrong, INDEX, () -> web.lost(0, wrong, 0));
            Check.dueThrow("reader " + wrong, INDEX, () -> web.lost(0, 0, wrong));
            Check.dueThrow("both persons " + wrong, INDEX, () -> web.lost(0, wrong, wrong));
        }
        Check.dueThrow("without any letter", INDEX, () -> web(2, 1).lost(0, 0, 1));
        Document.said(10, "Throws `IllegalStateException` if there are 12");
        for (int letter = 3; letter < 12; letter++) {
            Check.due("lost", web.lost(letter - 1, 0, 1), letter);
        }
        Check.dueThrow("a thirteenth", STATE, () -> web.lost(0, 0, 1));
        Check.dueThrow("a thirteenth, of one person", ARGUMENT, () -> web.lost(0, 1, 1));
        Check.dueThrow("a thirteenth, of nobody", INDEX, () -> web.lost(0, 3, 3));
        Check.dueThrow("a thirteenth, by none", INDEX, () -> web.lost(12, 0, 0));
    }

    private static void personsOf() {
        Document.said(11, NO_LETTER, LETTER, "Returns whether it was.");
        LetterWeb web = web(4, 0, "01", "23");
        web.lost(1, 3, 0);
        Check.due("a letter", web.isLost(0), false);
        Check.due("the one that mentions it", web.isLost(1), false);
        Check.due("the lost one", web.isLost(2), true);
        Document.said(12, NO_LETTER, LETTER, "- `isWriter`: whether the writer is meant", "Returns the person.");
        int[] writers = {0, 2, 3};
        int[] readers = {1, 3, 0};
        for (int letter = 0; letter < 3; letter++) {
            Check.due("writer", web.personOf(letter, true), writers[letter]);
            Check.due("reader", web.personOf(letter, false), readers[letter]);
        }
        for (int wrong : new int[] {Integer.MIN_VALUE, -1, 3, 12, Integer.MAX_VALUE}) {
            Check.dueThrow("isLost " + wrong, INDEX, () -> web.isLost(wrong));
            Check.dueThrow("writer of " + wrong, INDEX, () -> web.personOf(wrong, true));
            Check.dueThrow("reader of " + wrong, INDEX, () -> web.personOf(wrong, false));
        }
    }

    private static void dates() {
        Document.said(13, "Returns how many letters are dated.", LETTER, "- `day`: the day");
        LetterWeb web = web(2, 0, "01", "10", "01", "10", "01", "10", "01", "10");
        for (int letter = 0; letter < 7; letter++) {
            Check.due("date", web.date(letter, 999, 'o', 9), letter + 1);
        }
        Document.said(13, "Throws `IllegalStateException` if there are 7");
        Check.dueThrow("an eighth", STATE, () -> web.date(7, 1, 'n', 1));
        Document.said(13, "Throws `UnsupportedOperationException` if it is dated");
        Check.dueThrow("the seventh again", UNSUPPORTED, () -> web.date(6, 1, 'n', 1));
        Check.dueThrow("the first again, as it was", UNSUPPORTED, () -> web.date(0, 999, 'o', 9));
        web.undate(6);
        Check.dueThrow("the first again, when there is room", UNSUPPORTED, () -> web.date(0, 1, 'n', 1));
        Check.due("another one", web.date(7, 1, 'n', 1), 7);
        Document.said(13, "Throws `IllegalArgumentException` if a number is out of range, or there is no such calendar",
            "- `price`: 1 to 9");
        for (int letter : new int[] {0, 6}) {
            for (int wrong : new int[] {Integer.MIN_VALUE, -1, 1000, Integer.MAX_VALUE}) {
                Check.dueThrow("day " + wrong, ARGUMENT, () -> web.date(letter, wrong, 'n', 1));
            }
            for (int wrong : new int[] {Integer.MIN_VALUE, -1, 0, 10, Integer.MAX_VALUE}) {
                Check.dueThrow("price " + wrong, ARGUMENT, () -> web.date(letter, 1, '?', wrong));
            }
            Check.dueThrow("calendar", ARGUMENT, () -> web.date(letter, 1, 'x', 1));
        }
        Document.said(13, NO_LETTER);
        for (int wrong : new int[] {Integer.MIN_VALUE, -1, 8, 12, Integer.MAX_VALUE}) {
            Check.dueThrow("letter " + wrong, INDEX, () -> web.date(wrong, 1, 'n', 1));
            Check.dueThrow("letter " + wrong + " of no day", INDEX, () -> web.date(wrong, -1, 'n', 1));
            Check.dueThrow("letter " + wrong + " of no price", INDEX, () -> web.date(wrong, 1, 'n', 0));
            Check.dueThrow("letter " + wrong + " of no calendar", INDEX, () -> web.date(wrong, 1, 'x', 1));
        }
    }

    private static void calendars() {
        Document.said(13, "- `calendar`: 'n', 'o' or '?'");
        for (int first = 0; first < 65536; first += 256) {
            LetterWeb web = web(2, 0, "01");
            for (int sign = first; sign < first + 256; sign++) {
                char calendar = (char) sign;
                if (calendar == 'n' || calendar == 'o' || calendar == '?') {
                    Check.due("calendar " + calendar, web.date(0, 5, calendar, 1), 1);
                    Check.due("least day", web.earliest(0, true), calendar == 'o' ? 15 : 5);
                    Check.due("greatest day", web.latest(0, true), calendar == 'n' ? 5 : 15);
                    web.undate(0);
                } else {
                    Check.dueThrow("calendar " + sign, ARGUMENT, () -> web.date(0, 5, calendar, 1));
                }
            }
        }
    }

    private static void undates() {
        Document.said(14, "Returns the day that was told.", LETTER);
        LetterWeb web = web(2, 0, "01", "10");
        for (char calendar : "no?".toCharArray()) {
            for (int day : new int[] {0, 7, 990, 999}) {
                web.date(1, day, calendar, 1);
                Check.due("day " + day + " of " + calendar, web.undate(1), day);
            }
        }
        Document.said(14, "Throws `NoSuchElementException` if it is not dated");
        Check.dueThrow("never dated", ELEMENT, () -> web.undate(0));
        Check.dueThrow("no more dated", ELEMENT, () -> web.undate(1));
        Document.said(14, NO_LETTER);
        for (int wrong : new int[] {Integer.MIN_VALUE, -1, 2, 12, Integer.MAX_VALUE}) {
            Check.dueThrow("letter " + wrong, INDEX, () -> web.undate(wrong));
        }
        Document.said(16, NO_LETTER, LETTER);
        for (int wrong : new int[] {Integer.MIN_VALUE, -1, 2, 12, Integer.MAX_VALUE}) {
            Check.dueThrow("letter " + wrong, INDEX, () -> web.belief(wrong));
        }
        Document.said(16, "Throws `NoSuchElementException` if it is not dated");
        Check.dueThrow("never dated", ELEMENT, () -> web.belief(0));
        Check.dueThrow("no more dated", ELEMENT, () -> web.belief(1));
        web.date(1, 5, 'n', 1);
        Check.dueThrow("another one is dated", ELEMENT, () -> web.belief(0));
        Document.said(16, "Returns 'a', 's' or 'n'.");
        Check.due("the dated one", web.belief(1), 'a');
        web.date(0, 5, 'n', 1);
        Check.due("both hold on the same day", web.belief(0), 'a');
        web.lost(0, 0, 1);
        web.date(2, 6, '?', 1);
        Check.due("a lost one of a later day", web.belief(2), 's');
        Check.due("one that mentions it", web.belief(0), 's');
        Check.due("one that has nothing to do with it", web.belief(1), 'a');
        web.undate(0);
        web.date(0, 5, 'n', 2);
        Check.due("the cheaper one", web.belief(2), 'n');
        Check.due("the dearer one", web.belief(0), 'a');
    }

    private static void prices() {
        Document.said(15, "Returns the price.");
        LetterWeb web = web(2, 0, "01", "10", "01");
        Check.due("nothing dated", web.price(), 0);
        web.date(0, 100, 'n', 9);
        web.date(1, 50, '?', 9);
        Check.due("both believed", web.price(), 0);
        web.mention(1, 0);
        Check.due("one of them", web.price(), 9);
        web.date(2, 999, 'o', 9);
        Check.due("and one more", web.price(), 18);
        web.undate(0);
        Check.due("the last one alone", web.price(), 9);
        web.undate(2);
        Check.due("none", web.price(), 0);
    }

    private static void ranges() {
        LetterWeb web = web(2, 1);
        add(web, "01", 2, 4);
        web.date(0, 100, '?', 1);
        for (int promise = 17; promise <= 18; promise++) {
            Document.said(promise, NO_LETTER, LETTER, IS_WRITING, "Returns the day.");
            for (int wrong : new int[] {Integer.MIN_VALUE, -1, 1, 12, Integer.MAX_VALUE}) {
                Check.dueThrow("earliest " + wrong, INDEX, () -> web.earliest(wrong, true));
                Check.dueThrow("earliest arrival " + wrong, INDEX, () -> web.earliest(wrong, false));
                Check.dueThrow("latest " + wrong, INDEX, () -> web.latest(wrong, true));
                Check.dueThrow("latest arrival " + wrong, INDEX, () -> web.latest(wrong, false));
            }
            range("writing", web, 0, 100, 110);
            arrives("arrival", web, 0, 102, 114);
        }
        Document.said(19, NO_LETTER, LETTER, IS_WRITING, "- `day`: the day", "Returns whether some history that counts has it.");
        for (int wrong : new int[] {Integer.MIN_VALUE, -1, 1, 12, Integer.MAX_VALUE}) {
            Check.dueThrow("written " + wrong, INDEX, () -> web.canBe(wrong, true, 100));
            Check.dueThrow("arrived " + wrong, INDEX, () -> web.canBe(wrong, false, 100));
        }
        int[] days = {Integer.MIN_VALUE, Integer.MIN_VALUE + 100, -1, 0, 99, 100, 101, 102, 104, 105, 109, 110, 111, 112, 114, 115,
            999, 1000, Integer.MAX_VALUE - 99, Integer.MAX_VALUE};
        List<Integer> written = List.of(100, 110);
        List<Integer> arrived = List.of(102, 104, 112, 114);
        for (int day : days) {
            Check.due("written on " + day, web.canBe(0, true, day), written.contains(day));
            Check.due("arrived on " + day, web.canBe(0, false, day), arrived.contains(day));
        }
    }

    private static void orders() {
        Document.said(20, NEITHER_LETTER, LETTER, OTHER);
        LetterWeb web = web(2, 2, "01", "10", "01");
        for (int wrong : new int[] {Integer.MIN_VALUE, -1, 3, 12, Integer.MAX_VALUE}) {
            Check.dueThrow(wrong + " first", INDEX, () -> web.order(wrong, 0));
            Check.dueThrow(wrong + " behind", INDEX, () -> web.order(0, wrong));
            Check.dueThrow(wrong + " to itself", INDEX, () -> web.order(wrong, wrong));
        }
        Document.said(20, "Returns 'b', 'a', '=' or '?'.");
        web.answer(1, 0);
        Check.due("ahead", web.order(0, 1), 'b');
        Check.due("behind", web.order(1, 0), 'a');
        Check.due("itself", web.order(0, 0), '=');
        Check.due("not known", web.order(0, 2), '?');
    }

    private static void readings() {
        Document.said(21, "Returns how many.");
        LetterWeb web = web(2, 0, "01", "10", "01", "10", "01", "10", "01", "10");
        Check.due("none dated", web.readings(), 1);
        for (int letter = 0; letter < 7; letter++) {
            web.date(letter, 989, '?', 1);
            Check.due("two each", web.readings(), 2 << letter);
        }
        for (int letter = 0; letter < 7; letter++) {
            web.undate(letter);
            web.date(letter, 990, '?', 1);
            Check.due("one each", web.readings(), 64 >> letter);
        }
        LetterWeb either = web(2, 1, "01", "10");
        either.answer(1, 0);
        either.date(0, 500, '?', 1);
        either.date(1, 500, '?', 1);
        Check.due("one alone fits", either.readings(), 1);
        either.undate(1);
        either.date(1, 501, '?', 1);
        Check.due("three of four fit", either.readings(), 3);
        either.undate(1);
        either.date(1, 490, '?', 1);
        Check.due("none of four fits, so either one has two", either.readings(), 4);
        either.undate(1);
        either.date(1, 490, '?', 2);
        Check.due("the dearer one alone", either.readings(), 2);
    }

    private static void facts() {
        Document.said(22, "Throws `IndexOutOfBoundsException` if there is no such person", "- `person`: the finder");
        LetterWeb web = web(2, 0);
        for (int wrong : new int[] {Integer.MIN_VALUE, -1, 2, 8, Integer.MAX_VALUE}) {
            Check.dueThrow("person " + wrong, INDEX, () -> web.fact(wrong, 0));
            Check.dueThrow("person " + wrong + " on no day", INDEX, () -> web.fact(wrong, 1000));
        }
        Document.said(22, "Throws `IllegalArgumentException` if a number is out of range", "- `day`: the day", "Returns its number.");
        for (int wrong : new int[] {Integer.MIN_VALUE, -1, 1000, Integer.MAX_VALUE}) {
            Check.dueThrow("day " + wrong, ARGUMENT, () -> web.fact(0, wrong));
        }
        int[] days = {0, 999, 1, 998, 5};
        for (int fact = 0; fact < 5; fact++) {
            Check.due("fact", web.fact(fact % 2, days[fact]), fact);
            Check.due("its day", web.knows(fact % 2, fact), days[fact]);
        }
        Document.said(22, "Throws `IllegalStateException` if there are 5");
        Check.dueThrow("a sixth", STATE, () -> web.fact(0, 0));
        Check.dueThrow("a sixth, on no day", ARGUMENT, () -> web.fact(0, -1));
        Check.dueThrow("a sixth, of nobody", INDEX, () -> web.fact(2, -1));
    }

    private static void tellings() {
        Document.said(23, "Returns how many facts it tells.", LETTER, "- `fact`: the fact");
        LetterWeb web = web(2, 0, "01", "10");
        for (int fact = 0; fact < 5; fact++) {
            web.fact(0, fact);
        }
        int[] facts = {4, 0, 2, 1, 3};
        for (int at = 0; at < 5; at++) {
            Check.due("tell", web.tell(0, facts[at]), at + 1);
        }
        Check.due("another letter", web.tell(1, 4), 1);
        Document.said(23, "Throws `UnsupportedOperationException` if it was lost, or it is told already");
        for (int fact = 0; fact < 5; fact++) {
            int number = fact;
            Check.dueThrow("told already", UNSUPPORTED, () -> web.tell(0, number));
        }
        web.lost(0, 0, 1);
        Check.dueThrow("lost", UNSUPPORTED, () -> web.tell(2, 0));
        Document.said(23, "Throws `IndexOutOfBoundsException` if there is no such letter or fact");
        for (int wrong : new int[] {Integer.MIN_VALUE, -1, 5, Integer.MAX_VALUE}) {
            Check.dueThrow("fact " + wrong, INDEX, () -> web.tell(0, wrong));
            Check.dueThrow("fact " + wrong + " of a lost one", INDEX, () -> web.tell(2, wrong));
        }
        for (int wrong : new int[] {Integer.MIN_VALUE, -1, 3, 12, Integer.MAX_VALUE}) {
            Check.dueThrow("letter " + wrong, INDEX, () -> web.tell(wrong, 0));
        }
    }

    private static void showings() {
        Document.said(24, "Returns to how many it was shown.", LETTER, "- `person`: the person");
        LetterWeb web = web(8, 0, "01", "70");
        for (int person = 2; person < 8; person++) {
            Check.due("show", web.show(0, person), person - 1);
        }
        Check.due("another letter", web.show(1, 6), 1);
        Document.said(24, "Throws `UnsupportedOperationException` if it was lost, or this one wrote it, read it, or it was shown to "
            + "this one");
        Check.dueThrow("wrote it", UNSUPPORTED, () -> web.show(0, 0));
        Check.dueThrow("read it", UNSUPPORTED, () -> web.show(0, 1));
        Check.dueThrow("wrote the other one", UNSUPPORTED, () -> web.show(1, 7));
        Check.dueThrow("read the other one", UNSUPPORTED, () -> web.show(1, 0));
        for (int person = 2; person < 8; person++) {
            int number = person;
            Check.dueThrow("was shown it", UNSUPPORTED, () -> web.show(0, number));
        }
        web.lost(0, 0, 1);
        Check.dueThrow("lost", UNSUPPORTED, () -> web.show(2, 5));
        Document.said(24, "Throws `IndexOutOfBoundsException` if there is no such letter or person");
        for (int wrong : new int[] {Integer.MIN_VALUE, -1, 8, Integer.MAX_VALUE}) {
            Check.dueThrow("person " + wrong, INDEX, () -> web.show(0, wrong));
            Check.dueThrow("person " + wrong + " of a lost one", INDEX, () -> web.show(2, wrong));
        }
        for (int wrong : new int[] {Integer.MIN_VALUE, -1, 3, 12, Integer.MAX_VALUE}) {
            Check.dueThrow("letter " + wrong, INDEX, () -> web.show(wrong, 5));
        }
    }

    private static void chains() {
        LetterWeb web = web(3, 5, "01", "12");
        web.fact(0, 10);
        web.tell(0, 0);
        for (int promise = 25; promise <= 26; promise++) {
            Document.said(promise, NO_FACT, "- `person`: the person", "- `fact`: the fact");
            for (int wrong : new int[] {Integer.MIN_VALUE, -1, 3, 8, Integer.MAX_VALUE}) {
                Check.dueThrow("knows, person " + wrong, INDEX, () -> web.knows(wrong, 0));
                Check.dueThrow("chain, person " + wrong, INDEX, () -> web.chain(wrong, 0));
            }
            for (int wrong : new int[] {Integer.MIN_VALUE, -1, 1, 5, Integer.MAX_VALUE}) {
                Check.dueThrow("knows, fact " + wrong, INDEX, () -> web.knows(0, wrong));
                Check.dueThrow("chain, fact " + wrong, INDEX, () -> web.chain(0, wrong));
            }
            Document.said(promise, "Throws `NoSuchElementException` if there is no chain");
            knowsNot("the second letter does not tell it", web, 2, 0);
        }
        Document.said(25, "Returns the day.");
        Check.due("the finder", web.knows(0, 0), 10);
        Check.due("the reader", web.knows(1, 0), 15);
        Document.said(26, "Returns how many, 0 for the finder.");
        Check.due("the finder", web.chain(0, 0), 0);
        Check.due("the reader", web.chain(1, 0), 1);
        web.tell(1, 0);
        Check.due("the reader of the second", web.chain(2, 0), 2);
        Check.due("on its day", web.knows(2, 0), 20);
    }

    private static void chainsAt() {
        Document.said(27, "Throws `NoSuchElementException` if there is no chain, or no such letter", "- `index`: the index, from 0",
            "Returns the letter.");
        LetterWeb web = web(6, 5, "34", "23", "12", "01");
        web.fact(0, 10);
        for (int letter = 0; letter < 4; letter++) {
            web.tell(letter, 0);
        }
        int[] edges = {Integer.MIN_VALUE, -1, 4, 5, 12, Integer.MAX_VALUE};
        for (int person = 0; person < 5; person++) {
            int number = person;
            for (int index = 0; index < person; index++) {
                Check.due("letter " + index, web.chainAt(person, 0, index), 3 - index);
            }
            Check.dueThrow("behind the last", ELEMENT, () -> web.chainAt(number, 0, number));
            for (int index : edges) {
                Check.dueThrow("index " + index, ELEMENT, () -> web.chainAt(number, 0, index));
            }
        }
        for (int index = -1; index < 2; index++) {
            int number = index;
            Check.dueThrow("no chain, index " + index, ELEMENT, () -> web.chainAt(5, 0, number));
        }
        Document.said(27, NO_FACT, "- `person`: the person", "- `fact`: the fact");
        for (int wrong : new int[] {Integer.MIN_VALUE, -1, 6, 8, Integer.MAX_VALUE}) {
            Check.dueThrow("person " + wrong, INDEX, () -> web.chainAt(wrong, 0, 0));
            Check.dueThrow("person " + wrong + ", no index", INDEX, () -> web.chainAt(wrong, 0, -1));
            Check.dueThrow("fact " + wrong, INDEX, () -> web.chainAt(0, wrong, 0));
            Check.dueThrow("fact " + wrong + ", no index", INDEX, () -> web.chainAt(0, wrong, -1));
        }
        Check.dueThrow("the fact behind the last", INDEX, () -> web.chainAt(0, 1, 0));
    }

    private static void priorities() {
        Document.said(28, "Returns the person, -1 if both have the same day, or neither can know.", "- `fact`: the fact",
            "- `person`: a person", "- `other`: another one, or the same");
        LetterWeb web = web(5, 5, "01", "12");
        web.fact(0, 10);
        web.tell(0, 0);
        web.tell(1, 0);
        int[][] due = {{-1, 0, 0, 0, 0}, {0, -1, 1, 1, 1}, {0, 1, -1, 2, 2}, {0, 1, 2, -1, -1}, {0, 1, 2, -1, -1}};
        for (int person = 0; person < 5; person++) {
            for (int other = 0; other < 5; other++) {
                Check.due(person + " against " + other, web.priority(0, person, other), due[person][other]);
            }
        }
        Document.said(28, "Throws `IndexOutOfBoundsException` if there is no such fact or person, for either");
        for (int wrong : new int[] {Integer.MIN_VALUE, -1, 5, 8, Integer.MAX_VALUE}) {
            Check.dueThrow("person " + wrong, INDEX, () -> web.priority(0, wrong, 0));
            Check.dueThrow("other " + wrong, INDEX, () -> web.priority(0, 0, wrong));
            Check.dueThrow("both " + wrong, INDEX, () -> web.priority(0, wrong, wrong));
            Check.dueThrow("fact " + wrong, INDEX, () -> web.priority(wrong, 0, 1));
        }
        Check.dueThrow("the fact behind the last", INDEX, () -> web.priority(1, 0, 0));
    }

    private static void holders() {
        Document.said(29, "Throws `IllegalStateException` if there are 5", "Returns the number.");
        LetterWeb web = new LetterWeb();
        for (int holder = 0; holder < 5; holder++) {
            Check.due("holder", web.holder(), holder);
        }
        Check.dueThrow("a sixth", STATE, web::holder);
        Check.dueThrow("a sixth again", STATE, web::holder);
        Check.due("the fifth is there", web.held(4), 0);
        Check.dueThrow("the sixth is not", INDEX, () -> web.held(5));
    }

    private static void puts() {
        Document.said(30, "Returns how many this one has.", LETTER, "- `holder`: the holder");
        LetterWeb web = web(2, 0, "01", "10", "01");
        web.lost(0, 0, 1);
        web.holder();
        web.holder();
        Check.due("one", web.put(2, 0), 1);
        Check.due("two", web.put(0, 0), 2);
        Check.due("still two", web.put(2, 0), 2);
        Check.due("one in the other row", web.put(2, 1), 1);
        Check.due("again two", web.put(1, 0), 2);
        Document.said(30, "Throws `UnsupportedOperationException` if it was lost");
        Check.dueThrow("lost", UNSUPPORTED, () -> web.put(3, 0));
        Document.said(30, "Throws `IndexOutOfBoundsException` if there is no such letter or holder");
        for (int wrong : new int[] {Integer.MIN_VALUE, -1, 2, 5, Integer.MAX_VALUE}) {
            Check.dueThrow("holder " + wrong, INDEX, () -> web.put(0, wrong));
            Check.dueThrow("holder " + wrong + " of a lost one", INDEX, () -> web.put(3, wrong));
        }
        for (int wrong : new int[] {Integer.MIN_VALUE, -1, 4, 12, Integer.MAX_VALUE}) {
            Check.dueThrow("letter " + wrong, INDEX, () -> web.put(wrong, 0));
        }
        row("what was refused changed nothing", web, 0, 0, 1);
        row("nor here", web, 1, 2);
        Document.said(31, "Throws `NoSuchElementException` if nobody does", LETTER, "Returns the holder.");
        Check.dueThrow("a lost one", ELEMENT, () -> web.holderOf(3));
        int fresh = add(web, "01");
        Check.dueThrow("a new one", ELEMENT, () -> web.holderOf(fresh));
        Check.due("one that is held", web.holderOf(2), 1);
        Document.said(31, NO_LETTER);
        for (int wrong : new int[] {Integer.MIN_VALUE, -1, 5, 12, Integer.MAX_VALUE}) {
            Check.dueThrow("letter " + wrong, INDEX, () -> web.holderOf(wrong));
        }
    }

    private static void rows() {
        Document.said(32, "Throws `IndexOutOfBoundsException` if there is no such holder", "- `holder`: the holder", "Returns how many.");
        LetterWeb web = web(2, 0, "01", "10", "01");
        Check.dueThrow("no holder at all", INDEX, () -> web.held(0));
        web.holder();
        Check.due("none", web.held(0), 0);
        web.put(2, 0);
        web.put(1, 0);
        Check.due("two", web.held(0), 2);
        int[] wrong = {Integer.MIN_VALUE, -1, 1, 5, Integer.MAX_VALUE};
        for (int holder : wrong) {
            Check.dueThrow("holder " + holder, INDEX, () -> web.held(holder));
        }
        Document.said(33, "Throws `IndexOutOfBoundsException` if there is no such holder", "- `holder`: the holder");
        for (int holder : wrong) {
            Check.dueThrow("holder " + holder, INDEX, () -> web.heldAt(holder, 0));
            Check.dueThrow("holder " + holder + ", no index", INDEX, () -> web.heldAt(holder, -1));
        }
        Document.said(33, "Throws `NoSuchElementException` if there is none", "- `index`: the index, from 0", "Returns the letter.");
        Check.due("the first", web.heldAt(0, 0), 2);
        Check.due("the second", web.heldAt(0, 1), 1);
        for (int index : new int[] {Integer.MIN_VALUE, -1, 2, 12, Integer.MAX_VALUE}) {
            Check.dueThrow("index " + index, ELEMENT, () -> web.heldAt(0, index));
        }
        web.holder();
        Check.dueThrow("of an empty row", ELEMENT, () -> web.heldAt(1, 0));
    }

    private static void sales() {
        Document.said(34, "Returns how many were sold.", "- `holder`: the holder", "- `other`: another holder",
            "- `person`: the person, or -1 for all letters");
        LetterWeb web = web(4, 0, "01", "12", "20", "01", "21");
        web.holder();
        web.holder();
        for (int letter = 0; letter < 5; letter++) {
            web.put(letter, 0);
        }
        Check.due("of a person of whom there is none", web.sell(0, 1, 3, 5), 0);
        Check.due("of the first person", web.sell(0, 1, 0, 2), 2);
        row("sold", web, 1, 0, 2);
        Check.due("of all", web.sell(0, 1, -1, 5), 3);
        row("all of them", web, 1, 0, 2, 1, 3, 4);
        Check.due("back", web.sell(1, 0, 2, 3), 3);
        row("of one person", web, 0, 2, 1, 4);
        Document.said(34, "Throws `IllegalArgumentException` if both holders are the same, or the number is below 1",
            "- `most`: how many at most, from 1");
        Check.dueThrow("the same", ARGUMENT, () -> web.sell(0, 0, -1, 1));
        Check.dueThrow("the same other one", ARGUMENT, () -> web.sell(1, 1, 0, 1));
        for (int most : new int[] {Integer.MIN_VALUE, -1, 0}) {
            Check.dueThrow("most " + most, ARGUMENT, () -> web.sell(0, 1, -1, most));
        }
        row("what was refused sold none", web, 0, 2, 1, 4);
        Check.due("one", web.sell(0, 1, -1, 1), 1);
        row("one sold", web, 0, 1, 4);
        Document.said(34, "Throws `IndexOutOfBoundsException` if there is no such holder, for either, or person but -1");
        for (int wrong : new int[] {Integer.MIN_VALUE, -1, 2, 5, Integer.MAX_VALUE}) {
            Check.dueThrow("holder " + wrong, INDEX, () -> web.sell(wrong, 0, -1, 0));
            Check.dueThrow("other " + wrong, INDEX, () -> web.sell(0, wrong, -1, 0));
            Check.dueThrow("both " + wrong, INDEX, () -> web.sell(wrong, wrong, -1, 1));
        }
        for (int wrong : new int[] {Integer.MIN_VALUE, -2, 4, 8, Integer.MAX_VALUE}) {
            Check.dueThrow("person " + wrong, INDEX, () -> web.sell(0, 1, wrong, 1));
            Check.dueThrow("person " + wrong + ", the same holders", INDEX, () -> web.sell(0, 0, wrong, 1));
            Check.dueThrow("person " + wrong + ", none", INDEX, () -> web.sell(0, 1, wrong, 0));
        }
        row("what was refused sold none again", web, 0, 1, 4);
    }

    private static void numbersOf() {
        Document.said(35, "Returns how many letters got a number.");
        LetterWeb web = web(2, 1, "01", "10");
        Check.due("two", web.publish(), 2);
        Check.due("none", web.publish(), 0);
        add(web, "01");
        Check.due("one", web.publish(), 1);
        Document.said(36, "Returns 100 times the number, and its part, 0 for none.", LETTER);
        numbers("in the order of numbers", web, 100, 200, 201);
        web.date(0, 5, 'n', 1);
        web.date(1, 5, 'n', 1);
        web.date(2, 5, 'n', 1);
        web.lost(0, 0, 1);
        web.publish();
        Check.due("number 0 and its part", web.numberOf(3), 1);
        Document.said(36, "Throws `NoSuchElementException` if it has none");
        int fresh = add(web, "01");
        Check.dueThrow("a new one", ELEMENT, () -> web.numberOf(fresh));
        Document.said(36, NO_LETTER);
        for (int wrong : new int[] {Integer.MIN_VALUE, -1, 5, 12, Integer.MAX_VALUE}) {
            Check.dueThrow("letter " + wrong, INDEX, () -> web.numberOf(wrong));
        }
    }

    private static void networks() {
        Document.said(37, "Throws `IndexOutOfBoundsException` if there is no such person", "- `person`: the person", "Returns how many.");
        LetterWeb web = web(4, 0, "01", "12", "23");
        int[] wrong = {Integer.MIN_VALUE, -1, 4, 8, Integer.MAX_VALUE};
        for (int person : wrong) {
            Check.dueThrow("person " + person, INDEX, () -> web.broker(person));
        }
        int[] due = {0, 2, 2, 0};
        for (int person = 0; person < 4; person++) {
            Check.due("pairs of " + person, web.broker(person), due[person]);
        }
        Document.said(38, "Throws `IndexOutOfBoundsException` if there is no such person, for either", "- `person`: a person",
            "- `other`: another one");
        for (int person : wrong) {
            Check.dueThrow("of " + person, INDEX, () -> web.silence(person, 0));
            Check.dueThrow("with " + person, INDEX, () -> web.silence(0, person));
            Check.dueThrow(person + " with itself", INDEX, () -> web.silence(person, person));
        }
        Document.said(38, "Throws `NoSuchElementException` if there are fewer than two letters between them", "Returns the days.");
        Check.dueThrow("one", ELEMENT, () -> web.silence(0, 1));
        Check.dueThrow("none", ELEMENT, () -> web.silence(0, 2));
        Check.dueThrow("with itself", ELEMENT, () -> web.silence(1, 1));
        add(web, "10");
        Check.due("two", web.silence(0, 1), 0);
        web.date(3, 8, 'n', 1);
        Check.due("of unlike days", web.silence(0, 1), 8);
    }

    private static void shares() {
        Document.said(39, "Throws `ArithmeticException` if there are none");
        LetterWeb web = web(2, 0);
        Check.dueThrow("no letters", ARITHMETIC, web::sureShare);
        web.place();
        for (int letter = 0; letter < 8; letter++) {
            add(web, "01");
        }
        Check.dueThrow("no dates", ARITHMETIC, web::sureShare);
        Document.said(39, "Returns their number divided by that of all dated ones, both converted to float.");
        for (int letter = 0; letter < 7; letter++) {
            web.date(letter, 500, letter % 2 == 0 ? 'n' : '?', 1);
            Check.due("all of " + (letter + 1), web.sureShare(), 1.0f);
        }
        for (int letter = 0; letter < 7; letter++) {
            web.undate(letter);
            web.date(letter, 999, 'o', 1);
            Check.due("all but " + (letter + 1), web.sureShare(), (float) (6 - letter) / 7.0f);
        }
        for (int letter = 0; letter < 6; letter++) {
            web.undate(letter);
        }
        Check.due("none of one", web.sureShare(), 0.0f);
        web.undate(6);
        Check.dueThrow("no dates again", ARITHMETIC, web::sureShare);
        LetterWeb some = web(2, 1, "01", "10", "01");
        some.answer(1, 0);
        some.date(0, 500, 'n', 1);
        some.date(1, 500, 'n', 1);
        some.date(2, 500, 'n', 1);
        Check.due("one that is believed in some is not sure", some.sureShare(), 1.0f / 3.0f);
    }

    private static void widths() {
        Document.said(40, "Throws `ArithmeticException` if there are none");
        LetterWeb web = web(2, 0);
        Check.dueThrow("no letters", ARITHMETIC, web::meanWidth);
        Document.said(40, "Returns the sum of the greatest less the least days, divided by the number of letters, both converted to "
            + "double.");
        web.place();
        add(web, "01", 0, 99);
        Check.due("one", web.meanWidth(), 999.0);
        add(web, "01", 99, 99);
        Check.due("two", web.meanWidth(), 1899.0 / 2.0);
        web.lost(0, 0, 1);
        Check.due("a lost one counts", web.meanWidth(), 2898.0 / 3.0);
        web.date(0, 500, '?', 1);
        Check.due("dated", web.meanWidth(), (10.0 + 900.0 + 510.0) / 3.0);
        web.undate(0);
        web.date(0, 0, 'n', 1);
        Check.due("of one day", web.meanWidth(), 300.0);
        for (int letter = 3; letter < 12; letter++) {
            add(web, "01", 0, 0);
        }
        Check.due("twelve", web.meanWidth(), (900.0 + 9.0 * 999.0) / 12.0);
    }

    private static void checksums() {
        Document.said(41, "Returns 7 at first, then for each 31 times itself plus the least day of writing, then 31 times itself plus "
            + "the greatest, then 31 times itself plus the number in the edition as numberOf() tells it, 0 without one.");
        LetterWeb web = web(2, 1);
        Check.due("at first", web.checksum(), 7L);
        add(web, "01", 30, 99);
        Check.due("one letter", web.checksum(), sum(web));
        for (int letter = 1; letter < 12; letter++) {
            if (letter % 4 == 0) {
                web.lost(letter - 1, 0, 1);
            } else {
                add(web, "01", 10 * letter % 100, 99);
            }
            Check.due("letters: " + (letter + 1), web.checksum(), sum(web));
        }
        web.date(0, 5, '?', 1);
        web.date(4, 999, 'n', 1);
        Check.due("dated", web.checksum(), sum(web));
        web.publish();
        Check.due("with numbers", web.checksum(), sum(web));
        LetterWeb parts = web(2, 1, "01");
        parts.date(0, 5, 'n', 1);
        parts.publish();
        parts.lost(0, 0, 1);
        Check.due("one without a number", parts.checksum(), sum(parts));
        parts.publish();
        Check.due("one of number 0", parts.checksum(), sum(parts));
    }

    /** What checksum() should tell, by what other methods tell. */
    private static long sum(LetterWeb web) {
        BigInteger sum = BigInteger.valueOf(7);
        for (int letter = 0; letter < 12; letter++) {
            int[] values = new int[3];
            try {
                values[0] = web.earliest(letter, true);
            } catch (IndexOutOfBoundsException thrown) {
                break;
            }
            values[1] = web.latest(letter, true);
            try {
                values[2] = web.numberOf(letter);
            } catch (NoSuchElementException thrown) {
                values[2] = 0;
            }
            for (int value : values) {
                sum = sum.multiply(BigInteger.valueOf(31)).add(BigInteger.valueOf(value));
            }
        }
        return sum.longValue();
    }

    private static void soundness() {
        Document.said(42, "Returns whether it is so.");
        LetterWeb web = web(3, 2, "01", "10", "12");
        web.answer(1, 0);
        web.date(0, 100, '?', 1);
        web.date(1, 105, 'n', 1);
        web.lost(2, 0, 1);
        web.holder();
        web.holder();
        for (int letter = 0; letter < 3; letter++) {
            web.put(letter, 0);
        }
        web.sell(0, 1, 1, 2);
        web.publish();
        add(web, "01");
        web.publish();
        Check.due("sound", web.isSound(), true);
        for (int letter = 0; letter < 5; letter++) {
            for (boolean isWriting : new boolean[] {true, false}) {
                int least = web.earliest(letter, isWriting);
                int most = web.latest(letter, isWriting);
                Check.due("the least can be", web.canBe(letter, isWriting, least), true);
                Check.due("none ahead of it", web.canBe(letter, isWriting, least - 1), false);
                Check.due("the greatest can be", web.canBe(letter, isWriting, most), true);
                Check.due("none behind it", web.canBe(letter, isWriting, most + 1), false);
            }
        }
    }
}
