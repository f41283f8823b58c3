/** The sentences of 'Terms', each with the cases at its edges. */
final class TermsSentences extends Webs {
    private TermsSentences() {
    }

    static void all() {
        calls();
        persons();
        places();
        routeDays();
        firstRoutes();
        routesAsTold();
        letterLimit();
        twelfthLetter();
        days();
        answers();
        crossings();
        crossingsOnce();
        enclosures();
        mentions();
        lostLetters();
        noDays();
        DatesSentences.all();
        FactsSentences.all();
        EditionSentences.all();
    }

    private static void calls() {
        Document.said("An object is used for at most 512 calls after it has been made");
        LetterWeb asked = web(2, 0, "01");
        for (int call = 6; call < 512; call++) {
            Check.due("call " + call, asked.canBe(0, true, call), true);
        }
        Check.due("call 512 asks", asked.latest(0, true), 999);
        LetterWeb told = web(2, 0, "01");
        for (int call = 6; call < 511; call += 2) {
            Check.due("call " + call, told.date(0, call, 'n', 1), 1);
            Check.due("call " + (call + 1), told.undate(0), call);
        }
        Check.due("call 512 tells", told.date(0, 5, 'n', 1), 1);
    }

    private static void persons() {
        Document.said("People and routes. At most 8 persons and 6 places have numbers from 0 on.");
        LetterWeb web = new LetterWeb();
        for (int person = 0; person < 8; person++) {
            int number = person;
            Check.dueThrow("not there yet", INDEX, () -> web.broker(number));
            Check.due("person", web.person(), person);
            Check.due("there now", web.broker(person), 0);
        }
        Check.dueThrow("the eighth was the last one", INDEX, () -> web.broker(8));
        Check.dueThrow("a ninth person", STATE, web::person);
        Check.dueThrow("the ninth is not there", INDEX, () -> web.broker(8));
        Check.due("as many places as persons are of no matter", web.place(), 0);
        Check.due("the eighth writes to the seventh", web.letter(7, 6, 0, 0), 0);
        Check.due("and is its writer", web.personOf(0, true), 7);
    }

    private static void places() {
        LetterWeb web = web(2, 0);
        for (int place = 0; place < 6; place++) {
            int number = place;
            Check.dueThrow("not there yet", INDEX, () -> web.route(number, number, 1, 1));
            Check.due("place", web.place(), place);
            Check.due("there now", web.route(place, place, 1, 1), 0);
        }
        Check.dueThrow("a seventh place", STATE, web::place);
        Check.dueThrow("the seventh is not there", INDEX, () -> web.route(6, 6, 1, 1));
        Check.dueThrow("a letter from the seventh", INDEX, () -> web.letter(0, 1, 6, 0));
        Check.due("from the sixth to the first", web.route(5, 0, 4, 4), -1);
        Check.due("a letter from the sixth", web.letter(0, 1, 5, 0), 0);
        arrives("from the sixth", web, 0, 4, 999);
    }

    private static void routeDays() {
        Document.said("A route from a place to another one, or within one, takes at least and at most so many days, 0 to 99;");
        int[][] told = {{0, 0}, {0, 1}, {0, 99}, {98, 99}, {99, 99}};
        for (int[] days : told) {
            LetterWeb way = web(2, 2);
            way.route(0, 1, days[0], days[1]);
            way.route(0, 0, days[0], days[1]);
            way.letter(0, 1, 0, 1);
            way.letter(0, 1, 0, 0);
            for (int letter = 0; letter < 2; letter++) {
                range("undated", way, letter, 0, 999 - days[0]);
                arrives("undated", way, letter, days[0], 999);
                way.date(letter, 500, 'n', 1);
                arrives("dated", way, letter, 500 + days[0], 500 + days[1]);
            }
        }
        LetterWeb web = web(2, 2);
        web.route(0, 1, 99, 99);
        int[][] wrong = {{-1, 0}, {-1, -1}, {-1, 99}, {0, 100}, {99, 100}, {100, 100}, {1, 0}, {99, 98}, {99, 0},
            {Integer.MIN_VALUE, 0}, {0, Integer.MAX_VALUE}, {Integer.MAX_VALUE, Integer.MAX_VALUE},
            {Integer.MAX_VALUE, Integer.MIN_VALUE}, {Integer.MIN_VALUE, Integer.MAX_VALUE}, {0, Integer.MIN_VALUE}};
        for (int[] days : wrong) {
            String name = days[0] + " to " + days[1];
            Check.dueThrow("another place, " + name, ARGUMENT, () -> web.route(0, 1, days[0], days[1]));
            Check.dueThrow("within a place, " + name, ARGUMENT, () -> web.route(1, 1, days[0], days[1]));
        }
        Check.due("what was told last stays", web.route(0, 1, 1, 1), 99);
        Check.due("what was at first stays", web.route(1, 1, 1, 1), 0);
    }

    private static void firstRoutes() {
        Document.said("at first 0 within a place; there is none otherwise.");
        for (int from = 0; from < 6; from++) {
            LetterWeb web = web(2, 6);
            for (int to = 0; to < 6; to++) {
                int end = to;
                int begin = from;
                if (from == to) {
                    Check.due("a letter within a place", web.letter(0, 1, from, to), 0);
                } else {
                    Check.dueThrow("no route yet", UNSUPPORTED, () -> web.letter(0, 1, begin, end));
                }
                Check.due("the least days ahead", web.route(from, to, 7, 9), from == to ? 0 : -1);
            }
            web.date(0, 500, 'n', 1);
            arrives("it takes no day", web, 0, 500, 500);
        }
        LetterWeb one = web(2, 2);
        one.route(0, 1, 3, 3);
        Check.dueThrow("there is no way back", UNSUPPORTED, () -> one.letter(1, 0, 1, 0));
    }

    private static void routesAsTold() {
        Document.said("A letter has the route as it is when the letter is told, whatever becomes of it.");
        LetterWeb web = web(2, 2);
        web.route(0, 1, 10, 20);
        web.letter(0, 1, 0, 1);
        web.date(0, 500, 'n', 1);
        arrives("as told", web, 0, 510, 520);
        web.route(0, 1, 0, 99);
        arrives("when the route is wider", web, 0, 510, 520);
        web.route(0, 1, 15, 15);
        arrives("when the route is narrower", web, 0, 510, 520);
        web.route(0, 1, 40, 50);
        web.letter(0, 1, 0, 1);
        arrives("when another letter has another route", web, 0, 510, 520);
        arrives("the other letter", web, 1, 40, 999);
    }

    private static void letterLimit() {
        Document.said("Letters. At most 12 letters have numbers from 0 on, each from a writer at a place to another person, "
            + "its reader, at a place.");
        LetterWeb web = web(3, 1);
        for (int letter = 0; letter < 12; letter++) {
            int number = letter;
            Check.dueThrow("not there yet", INDEX, () -> web.isLost(number));
            Check.due("letter", letter % 3 == 2 ? web.lost(0, 1, 2) : add(web, "01"), letter);
            Check.due("there now", web.isLost(letter), letter % 3 == 2);
            Check.due("its writer", web.personOf(letter, true), letter % 3 == 2 ? 1 : 0);
            Check.due("its reader", web.personOf(letter, false), letter % 3 == 2 ? 2 : 1);
        }
        Check.dueThrow("a thirteenth letter", STATE, () -> add(web, "01"));
        Check.dueThrow("a thirteenth letter, lost", STATE, () -> web.lost(11, 0, 1));
        Check.dueThrow("it is not there", INDEX, () -> web.isLost(12));
        Check.dueThrow("its writer is not there", INDEX, () -> web.personOf(12, true));
        Check.dueThrow("to oneself", ARGUMENT, () -> add(web, "22"));
        LetterWeb eleven = web(2, 0, "01", "01", "01", "01", "01", "01", "01", "01", "01", "01", "01");
        Check.due("a twelfth that is lost", eleven.lost(10, 0, 1), 11);
        Check.dueThrow("behind it a thirteenth", STATE, () -> add(eleven, "01"));
    }

    /** The last letter that there can be, in all that a letter can be told and asked. */
    private static void twelfthLetter() {
        Check.about("the twelfth letter");
        LetterWeb web = web(3, 5, "01", "01", "01", "01", "01", "01", "01", "01", "01", "01", "12");
        Check.due("letter", add(web, "10"), 11);
        Check.dueThrow("not dated", ELEMENT, () -> web.belief(11));
        Check.due("date", web.date(11, 500, '?', 2), 1);
        Check.dueThrow("dated twice", UNSUPPORTED, () -> web.date(11, 500, 'n', 1));
        range("dated", web, 11, 500, 510);
        arrives("dated", web, 11, 505, 515);
        Check.due("believed", web.belief(11), 'a');
        Check.due("share", web.sureShare(), 1.0f);
        Check.due("undate", web.undate(11), 500);
        range("undated", web, 11, 0, 994);
        web.date(11, 500, 'n', 2);
        Check.due("answer", web.answer(11, 0), 1);
        range("the answered one", web, 0, 0, 495);
        Check.due("cross", web.cross(11, 1), 1);
        range("the crossed one", web, 1, 496, 504);
        Check.due("mention", web.mention(11, 10), 1);
        range("the mentioned one", web, 10, 0, 500);
        Check.due("enclose", web.enclose(11, 2), 1);
        range("the one that it is enclosed in", web, 2, 500, 500);
        Check.due("order", web.order(11, 2), '=');
        Check.due("order to the first", web.order(11, 0), 'a');
        Check.due("fact", web.fact(1, 400), 0);
        Check.due("tell", web.tell(11, 0), 1);
        Check.due("show", web.show(11, 2), 1);
        knows("its reader", web, 0, 0, 505, 11);
        knows("to whom it was shown", web, 2, 0, 505, 11);
        Check.due("holder", web.holder(), 0);
        Check.due("put", web.put(11, 0), 1);
        row("its row", web, 0, 11);
        Check.due("publish", web.publish(), 12);
        Check.due("its number", web.numberOf(11), 1200);
        Check.due("broker", web.broker(1), 1);
        Check.due("silence", web.silence(1, 0), 496);
        Check.due("is sound", web.isSound(), true);
    }

    private static void days() {
        Document.said("Its day of writing and its day of arrival are whole, 0 to 999, as far apart as its route takes.");
        LetterWeb web = web(2, 1);
        add(web, "01", 3, 5);
        range("of 3 to 5 days", web, 0, 0, 996);
        arrives("of 3 to 5 days", web, 0, 3, 999);
        int[] edges = {Integer.MIN_VALUE, -1, 0, 2, 3, 996, 997, 999, 1000, Integer.MAX_VALUE};
        boolean[] written = {false, false, true, true, true, true, false, false, false, false};
        boolean[] arrived = {false, false, false, false, true, true, true, true, false, false};
        for (int at = 0; at < edges.length; at++) {
            Check.due("written on " + edges[at], web.canBe(0, true, edges[at]), written[at]);
            Check.due("arrived on " + edges[at], web.canBe(0, false, edges[at]), arrived[at]);
        }
        web.date(0, 996, 'n', 1);
        arrives("written on its last day", web, 0, 999, 999);
        web.undate(0);
        web.date(0, 0, 'n', 1);
        arrives("written on the first day", web, 0, 3, 5);
        web.undate(0);
        web.date(0, 994, 'n', 1);
        arrives("the longest way fits", web, 0, 997, 999);
        web.undate(0);
        web.date(0, 995, 'n', 1);
        arrives("the longest way is cut", web, 0, 998, 999);
        web.undate(0);
        web.date(0, 997, 'n', 1);
        Check.due("a day later is not had", web.belief(0), 'n');
        add(web, "01", 0, 0);
        range("of no days", web, 1, 0, 999);
        arrives("of no days", web, 1, 0, 999);
        add(web, "01", 99, 99);
        range("of 99 days", web, 2, 0, 900);
        arrives("of 99 days", web, 2, 99, 999);
    }

    private static void answers() {
        Document.said("All that is told of letters holds for these days: an answer is written on the day on which the other "
            + "one arrives, or later, and is of the reader of that to its writer;");
        LetterWeb web = web(3, 1);
        add(web, "01", 5, 7);
        add(web, "10", 0, 0);
        web.answer(1, 0);
        web.date(0, 100, 'n', 9);
        range("the answer", web, 1, 105, 999);
        web.date(1, 105, 'n', 1);
        Check.due("on the day of arrival", web.belief(1), 'a');
        arrives("the other one is there by then", web, 0, 105, 105);
        web.undate(1);
        web.date(1, 104, 'n', 1);
        Check.due("a day ahead of the arrival", web.belief(1), 'n');
        web.undate(1);
        web.date(1, 107, 'n', 1);
        arrives("or later", web, 0, 105, 107);
        add(web, "20");
        add(web, "12");
        add(web, "01");
        Check.dueThrow("of somebody else", ARGUMENT, () -> web.answer(2, 0));
        Check.dueThrow("to somebody else", ARGUMENT, () -> web.answer(3, 0));
        Check.dueThrow("of the writer of that", ARGUMENT, () -> web.answer(4, 0));
    }

    private static void crossings() {
        Document.said("two that cross are written each ahead of the day on which the other one arrives, and are of the same "
            + "two persons, the other way round;");
        LetterWeb web = web(3, 4, "01", "10", "12", "21", "01");
        web.cross(0, 1);
        web.date(0, 100, 'n', 9);
        range("the other one", web, 1, 97, 103);
        int[] days = {96, 97, 103, 104};
        for (int day : days) {
            web.date(1, day, 'n', 1);
            Check.due("written on " + day, web.belief(1), day == 97 || day == 103 ? 'a' : 'n');
            web.undate(1);
        }
        Check.dueThrow("of the same writer", ARGUMENT, () -> web.cross(0, 4));
        Check.dueThrow("of its reader to another one", ARGUMENT, () -> web.cross(0, 2));
        Check.dueThrow("of another one to its reader", ARGUMENT, () -> web.cross(0, 3));
        LetterWeb day = web(2, 1, "01", "10");
        day.cross(0, 1);
        Check.due("of one day each they are of the same day", day.order(0, 1), '=');
        LetterWeb uneven = web(2, 1);
        add(uneven, "01", 0, 0);
        add(uneven, "10", 1, 1);
        add(uneven, "10", 2, 2);
        Check.dueThrow("a day is too short", UNSUPPORTED, () -> uneven.cross(0, 1));
        Check.due("two days are enough", uneven.cross(0, 2), 1);
        Check.due("in the midst of them", uneven.order(2, 0), 'b');
    }

    private static void crossingsOnce() {
        Document.said("this is told once, whichever is named first;");
        LetterWeb web = web(2, 4, "01", "10", "10", "01");
        Check.due("cross", web.cross(0, 1), 1);
        Check.dueThrow("again", ARGUMENT, () -> web.cross(0, 1));
        Check.dueThrow("the other one first", ARGUMENT, () -> web.cross(1, 0));
        Check.due("another one", web.cross(2, 0), 1);
        Check.dueThrow("again the other way round", ARGUMENT, () -> web.cross(0, 2));
        Check.due("this one crossed none yet", web.cross(3, 1), 1);
        Check.due("this one did", web.cross(2, 3), 2);
        Check.due("crossed letters may mention each other", web.mention(0, 1), 1);
    }

    private static void enclosures() {
        Document.said("one that is enclosed in another one is written on that one's day of writing, or ahead of it, and arrives "
            + "on the same day;");
        LetterWeb web = web(3, 1);
        add(web, "01", 10, 20);
        add(web, "02", 0, 99);
        web.enclose(1, 0);
        web.date(0, 500, 'n', 9);
        range("the enclosed one", web, 1, 411, 500);
        arrives("the enclosed one", web, 1, 510, 520);
        web.date(1, 500, 'n', 1);
        Check.due("on the day of writing", web.belief(1), 'a');
        web.undate(1);
        web.date(1, 501, 'n', 1);
        Check.due("a day later", web.belief(1), 'n');
        web.undate(1);
        web.date(1, 411, 'n', 1);
        Check.due("as far ahead as it can be", web.belief(1), 'a');
        arrives("then the other one arrives with it", web, 0, 510, 510);
        web.undate(1);
        web.date(1, 410, 'n', 1);
        Check.due("too far ahead", web.belief(1), 'n');
        add(web, "01", 0, 9);
        Check.dueThrow("too quick", UNSUPPORTED, () -> web.enclose(2, 0));
        add(web, "01", 0, 10);
        Check.due("as quick as may be", web.enclose(3, 0), 2);
        Check.due("written with it", web.order(3, 0), '=');
    }

    private static void mentions() {
        Document.said("one that mentions another one is written on that one's day of writing, or later;");
        LetterWeb web = web(4, 5, "01", "23");
        web.mention(1, 0);
        web.date(0, 100, 'n', 9);
        range("the one that mentions", web, 1, 100, 994);
        web.date(1, 100, 'n', 1);
        Check.due("on the day of writing", web.belief(1), 'a');
        web.undate(1);
        web.date(1, 99, 'n', 1);
        Check.due("a day ahead", web.belief(1), 'n');
    }

    private static void lostLetters() {
        Document.said("a letter that was lost is told with the letter that mentions it; its day of arrival is that of its "
            + "writing, and means nothing.");
        LetterWeb web = web(3, 7, "01");
        Check.due("lost", web.lost(0, 1, 2), 1);
        Check.dueThrow("the mention is told with it", ARGUMENT, () -> web.mention(0, 1));
        web.date(0, 100, 'n', 9);
        range("it is of that day, or ahead of it", web, 1, 0, 100);
        arrives("on the day of its writing", web, 1, 0, 100);
        web.date(1, 100, '?', 1);
        range("the one reading that fits", web, 1, 100, 100);
        arrives("the one reading that fits", web, 1, 100, 100);
        web.undate(1);
        web.date(1, 101, 'n', 1);
        Check.due("a day behind the mention", web.belief(1), 'n');
        web.route(0, 0, 0, 99);
        web.undate(1);
        web.date(1, 40, 'n', 1);
        arrives("whatever the routes", web, 1, 40, 40);
        Check.due("it can be there", web.canBe(1, false, 40), true);
        Check.due("on that day alone", web.canBe(1, false, 41), false);
        Check.due("it is ahead", web.order(1, 0), 'b');
        web.undate(1);
        Check.due("or on the same day", web.order(1, 0), '?');
        web.date(1, 100, 'n', 1);
        Check.due("on that day alone", web.order(0, 1), '=');
    }

    private static void noDays() {
        Document.said("What would leave no days at all, dates aside, is refused.");
        // Ten answers of 99 days each and nine more days fill the days 0 to 999.
        for (int last = 9; last <= 10; last++) {
            LetterWeb web = web(2, 1);
            for (int letter = 0; letter < 11; letter++) {
                int days = letter < 10 ? 99 : last;
                add(web, letter % 2 == 0 ? "01" : "10", days, 99);
                if (letter > 0 && letter < 10) {
                    Check.due("answer", web.answer(letter, letter - 1), 1);
                }
            }
            if (last == 9) {
                Check.due("all days are filled", web.answer(10, 9), 1);
                range("one day is left for each", web, 5, 495, 495);
                arrives("the last one", web, 10, 999, 999);
            } else {
                Check.dueThrow("a day too much", UNSUPPORTED, () -> web.answer(10, 9));
                range("it changed nothing", web, 5, 495, 504);
            }
        }
        LetterWeb dated = web(2, 3, "01", "10");
        dated.date(0, 500, 'n', 2);
        dated.date(1, 400, 'n', 1);
        Check.due("dates aside", dated.answer(1, 0), 1);
        Check.due("a date is disbelieved instead", dated.price(), 1);
        Check.dueThrow("and the other way round no days are left", UNSUPPORTED, () -> dated.answer(0, 1));
        Check.dueThrow("nor can they cross", UNSUPPORTED, () -> dated.cross(0, 1));
        Check.dueThrow("nor does the one enclose the other", UNSUPPORTED, () -> dated.enclose(1, 0));
        Check.dueThrow("nor mention it", UNSUPPORTED, () -> dated.mention(0, 1));
        Check.due("the answer may well mention it", dated.mention(1, 0), 1);
    }
}
