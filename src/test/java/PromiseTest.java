/** Promises 1 to 42, one after another: ordinary calls, the edges that the document names, wrong calls. */
public final class PromiseTest extends Webs {
    private PromiseTest() {
    }

    public static void main(String[] args) {
        examples();
        peopleAndRoutes();
        letters();
        answers();
        crossings();
        enclosures();
        mentions();
        lostLetters();
        dates();
        ranges();
        orders();
        facts();
        chains();
        tiesOfChains();
        priorities();
        holders();
        sales();
        editions();
        networks();
        figures();
        Check.end();
    }

    private static void examples() {
        LetterWeb one = web(2, 2);
        Check.due("example 1 route", one.route(0, 1, 3, 5), -1);
        Check.due("example 1 letter", one.letter(0, 1, 0, 1), 0);
        range("example 1", one, 0, 0, 996);
        Check.due("example 1 arrival", one.earliest(0, false), 3);
        Check.due("example 1 date", one.date(0, 100, 'n', 1), 1);
        Check.due("example 1 latest arrival", one.latest(0, false), 105);

        LetterWeb two = web(2, 0, "01", "10");
        Check.due("example 2 answer", two.answer(1, 0), 1);
        Check.due("example 2 date", two.date(0, 50, 'n', 2), 1);
        Check.due("example 2 second date", two.date(1, 40, '?', 1), 2);
        Check.due("example 2 price", two.price(), 0);
        Check.due("example 2 readings", two.readings(), 1);
        Check.due("example 2 belief", two.belief(1), 'a');
        Check.due("example 2 earliest", two.earliest(1, true), 50);

        LetterWeb three = web(2, 1);
        Check.due("example 3 route", three.route(0, 0, 2, 2), 0);
        Check.due("example 3 letter", three.letter(0, 1, 0, 0), 0);
        Check.due("example 3 fact", three.fact(0, 10), 0);
        Check.due("example 3 tell", three.tell(0, 0), 1);
        Check.due("example 3 knows", three.knows(1, 0), 12);
        Check.due("example 3 chain", three.chain(1, 0), 1);
        Check.due("example 3 priority", three.priority(0, 1, 0), 0);

        LetterWeb four = web(2, 0, "01");
        Check.due("example 4 lost", four.lost(0, 1, 0), 1);
        Check.due("example 4 publish", four.publish(), 2);
        Check.due("example 4 number", four.numberOf(0), 100);
        Check.due("example 4 number of the lost one", four.numberOf(1), 200);
        Check.due("example 4 letter", add(four, "01"), 2);
        Check.due("example 4 second publish", four.publish(), 1);
        Check.due("example 4 number of the new one", four.numberOf(2), 201);
    }

    // Promises 1 to 4.
    private static void peopleAndRoutes() {
        LetterWeb web = new LetterWeb();
        Check.dueThrow("a new web has no person", INDEX, () -> web.broker(0));
        Check.dueThrow("a new web has no letter", INDEX, () -> web.isLost(0));
        Check.dueThrow("a new web has no place", INDEX, () -> web.route(0, 0, 1, 1));
        Check.dueThrow("a new web has no holder", INDEX, () -> web.held(0));
        Check.due("nothing to publish", web.publish(), 0);
        for (int person = 0; person < 8; person++) {
            Check.due("person", web.person(), person);
        }
        Check.dueThrow("a ninth person", STATE, web::person);
        Check.dueThrow("a ninth person again", STATE, web::person);
        for (int place = 0; place < 6; place++) {
            Check.due("place", web.place(), place);
        }
        Check.dueThrow("a seventh place", STATE, web::place);
        Check.due("the eighth person is there", web.broker(7), 0);
        Check.due("another web is another one", new LetterWeb().person(), 0);

        for (int place = 0; place < 6; place++) {
            Check.due("route within a place", web.route(place, place, 4, 9), 0);
        }
        Check.due("route between places", web.route(0, 5, 0, 99), -1);
        Check.due("the way back is another route", web.route(5, 0, 99, 99), -1);
        Check.due("route again", web.route(0, 5, 7, 7), 0);
        Check.dueThrow("least below 0", ARGUMENT, () -> web.route(0, 5, -1, 5));
        Check.dueThrow("most above 99", ARGUMENT, () -> web.route(0, 5, 1, 100));
        Check.dueThrow("both above 99", ARGUMENT, () -> web.route(0, 5, 100, 100));
        Check.dueThrow("most below least", ARGUMENT, () -> web.route(0, 5, 9, 8));
        Check.due("what was refused changed nothing", web.route(0, 5, 3, 3), 7);
        for (int wrong : WRONG) {
            Check.dueThrow("route from " + wrong, INDEX, () -> web.route(wrong, 0, -1, 0));
            Check.dueThrow("route to " + wrong, INDEX, () -> web.route(0, wrong, -1, 0));
        }
        Check.dueThrow("route to place 6", INDEX, () -> web.route(0, 6, 1, 1));
    }

    // Promise 5, 11, 12, 17, 18.
    private static void letters() {
        LetterWeb web = web(3, 3);
        web.route(0, 1, 5, 9);
        Check.due("letter", web.letter(0, 1, 0, 1), 0);
        range("by its route", web, 0, 0, 994);
        arrives("by its route", web, 0, 5, 999);
        web.route(0, 1, 20, 99);
        Check.due("later letter", web.letter(2, 1, 0, 1), 1);
        range("the route as it was told", web, 0, 0, 994);
        range("the route as it is now", web, 1, 0, 979);
        Check.due("letter within a place", web.letter(1, 2, 2, 2), 2);
        range("within a place", web, 2, 0, 999);
        arrives("within a place", web, 2, 0, 999);
        Check.due("is not lost", web.isLost(0), false);
        Check.due("writer", web.personOf(1, true), 2);
        Check.due("reader", web.personOf(1, false), 1);

        Check.dueThrow("no route back", UNSUPPORTED, () -> web.letter(0, 1, 1, 0));
        Check.dueThrow("same persons ahead of no route", ARGUMENT, () -> web.letter(0, 0, 1, 0));
        for (int wrong : new int[] {-1, 3, Integer.MAX_VALUE}) {
            Check.dueThrow("writer " + wrong, INDEX, () -> web.letter(wrong, 1, 0, 0));
            Check.dueThrow("reader " + wrong, INDEX, () -> web.letter(1, wrong, 0, 0));
            Check.dueThrow("same persons from " + wrong, INDEX, () -> web.letter(1, 1, wrong, 0));
            Check.dueThrow("same persons to " + wrong, INDEX, () -> web.letter(1, 1, 0, wrong));
            Check.dueThrow("isLost " + wrong, INDEX, () -> web.isLost(wrong));
            Check.dueThrow("personOf " + wrong, INDEX, () -> web.personOf(wrong, true));
            Check.dueThrow("earliest " + wrong, INDEX, () -> web.earliest(wrong, true));
            Check.dueThrow("latest " + wrong, INDEX, () -> web.latest(wrong, false));
        }
        for (int letter = 3; letter < 12; letter++) {
            Check.due("letter", web.letter(0, 2, 0, 0), letter);
        }
        Check.dueThrow("a thirteenth letter", STATE, () -> web.letter(0, 2, 0, 0));
        Check.dueThrow("a thirteenth letter without a route", UNSUPPORTED, () -> web.letter(0, 2, 1, 0));
        Check.dueThrow("a thirteenth letter, lost", STATE, () -> web.lost(0, 0, 2));
        Check.dueThrow("a thirteenth letter, lost, of one person", ARGUMENT, () -> web.lost(0, 2, 2));
        range("the twelfth letter", web, 11, 0, 999);
    }

    // Promise 6.
    private static void answers() {
        LetterWeb web = web(3, 3, "01", "10", "01", "12", "21");
        Check.due("answer", web.answer(1, 0), 1);
        range("the answer is written when the other one is there", web, 1, 3, 996);
        range("the answered one", web, 0, 0, 993);
        Check.due("a second one is answered", web.answer(1, 2), 2);
        Check.dueThrow("told already", ARGUMENT, () -> web.answer(1, 0));
        Check.dueThrow("not to its writer", ARGUMENT, () -> web.answer(0, 3));
        Check.dueThrow("of the same writer", ARGUMENT, () -> web.answer(0, 2));
        Check.dueThrow("to itself", ARGUMENT, () -> web.answer(0, 0));
        Check.dueThrow("the answered one answers", UNSUPPORTED, () -> web.answer(0, 1));
        range("what was refused changed nothing", web, 0, 0, 993);
        web.lost(0, 1, 0);
        Check.dueThrow("a lost one answers", UNSUPPORTED, () -> web.answer(5, 0));
        Check.dueThrow("a lost one is answered", UNSUPPORTED, () -> web.answer(0, 5));
        Check.dueThrow("a lost one of other persons", ARGUMENT, () -> web.answer(5, 3));
        for (int wrong : WRONG) {
            Check.dueThrow("answer of " + wrong, INDEX, () -> web.answer(wrong, 0));
            Check.dueThrow("answer to " + wrong, INDEX, () -> web.answer(0, wrong));
        }
        LetterWeb quick = web(2, 0, "01", "10");
        quick.answer(1, 0);
        Check.due("on the same day both can answer", quick.answer(0, 1), 1);
        Check.due("then on that day alone", quick.order(0, 1), '=');
    }

    // Promise 7.
    private static void crossings() {
        LetterWeb web = web(3, 3, "01", "10", "10", "12");
        web.date(0, 100, 'n', 1);
        Check.due("cross", web.cross(1, 0), 1);
        range("crossed letters", web, 1, 98, 102);
        Check.dueThrow("told already", ARGUMENT, () -> web.cross(1, 0));
        Check.dueThrow("told already, the other one first", ARGUMENT, () -> web.cross(0, 1));
        Check.due("a second crossing of the same letter", web.cross(0, 2), 2);
        Check.dueThrow("of the same writer", ARGUMENT, () -> web.cross(1, 2));
        Check.dueThrow("of other persons", ARGUMENT, () -> web.cross(0, 3));
        Check.dueThrow("itself", ARGUMENT, () -> web.cross(0, 0));
        Check.dueThrow("crossed letters answer", UNSUPPORTED, () -> web.answer(1, 0));
        web.lost(3, 0, 1);
        Check.dueThrow("a lost one", UNSUPPORTED, () -> web.cross(4, 1));
        Check.dueThrow("with a lost one", UNSUPPORTED, () -> web.cross(1, 4));
        Check.dueThrow("a lost one of other persons", ARGUMENT, () -> web.cross(4, 3));
        for (int wrong : WRONG) {
            Check.dueThrow("cross of " + wrong, INDEX, () -> web.cross(wrong, 0));
            Check.dueThrow("cross with " + wrong, INDEX, () -> web.cross(0, wrong));
        }
        LetterWeb answered = web(2, 4, "01", "10");
        answered.answer(1, 0);
        Check.dueThrow("an answer crosses", UNSUPPORTED, () -> answered.cross(0, 1));
        Check.due("what was refused can be told in another way", answered.mention(1, 0), 1);
        range("what was refused changed nothing", answered, 1, 4, 995);
        LetterWeb quick = web(2, 0, "01", "10");
        Check.dueThrow("letters that take no day can't cross", UNSUPPORTED, () -> quick.cross(0, 1));
    }

    // Promise 8.
    private static void enclosures() {
        LetterWeb web = web(3, 2);
        web.route(0, 0, 10, 20);
        web.route(0, 1, 2, 4);
        web.letter(0, 1, 0, 0);
        web.letter(1, 2, 0, 0);
        web.letter(2, 0, 0, 1);
        web.letter(0, 2, 1, 1);
        web.date(0, 100, 'n', 1);
        Check.due("enclose", web.enclose(1, 0), 1);
        arrives("the enclosed one arrives with the other", web, 1, 110, 120);
        range("the enclosed one is written ahead or on the day", web, 1, 90, 100);
        Check.dueThrow("enclosed already", ARGUMENT, () -> web.enclose(1, 2));
        Check.dueThrow("enclosed already in that one", ARGUMENT, () -> web.enclose(1, 0));
        Check.dueThrow("in itself", ARGUMENT, () -> web.enclose(2, 2));
        Check.dueThrow("too quick to go with a slow one", UNSUPPORTED, () -> web.enclose(2, 0));
        range("what was refused changed nothing", web, 2, 0, 997);
        Check.due("a third one in the quick one", web.enclose(0, 2), 1);
        range("the outermost one", web, 2, 106, 118);
        web.lost(0, 0, 1);
        Check.dueThrow("a lost one is enclosed", UNSUPPORTED, () -> web.enclose(4, 2));
        Check.dueThrow("in a lost one", UNSUPPORTED, () -> web.enclose(3, 4));
        Check.dueThrow("an enclosed one in a lost one", ARGUMENT, () -> web.enclose(1, 4));
        for (int wrong : WRONG) {
            Check.dueThrow("enclose " + wrong, INDEX, () -> web.enclose(wrong, 0));
            Check.dueThrow("enclose in " + wrong, INDEX, () -> web.enclose(0, wrong));
        }
        LetterWeb many = web(2, 3, "01", "01", "10");
        Check.due("first enclosed", many.enclose(1, 0), 1);
        Check.due("second enclosed", many.enclose(2, 0), 2);
        Check.due("one of like days", many.order(1, 2), '=');
    }

    // Promise 9.
    private static void mentions() {
        LetterWeb web = web(4, 5, "01", "23", "10", "01");
        web.date(0, 100, 'n', 1);
        Check.due("mention", web.mention(1, 0), 1);
        range("the one that mentions", web, 1, 100, 994);
        Check.due("a second one is mentioned", web.mention(1, 3), 2);
        Check.dueThrow("told already", ARGUMENT, () -> web.mention(1, 0));
        Check.dueThrow("itself", ARGUMENT, () -> web.mention(1, 1));
        Check.due("each mentions the other", web.mention(0, 1), 1);
        Check.due("so both are of one day", web.order(0, 1), '=');
        web.answer(2, 0);
        Check.dueThrow("the answered one mentions the answer", UNSUPPORTED, () -> web.mention(0, 2));
        Check.due("a lost one", web.lost(0, 0, 1), 4);
        Check.dueThrow("a lost one is mentioned already", ARGUMENT, () -> web.mention(0, 4));
        Check.due("a lost one counts as mentioned", web.mention(0, 3), 3);
        Check.due("a lost one mentions", web.mention(4, 3), 1);
        Check.due("another one mentions the lost one", web.mention(2, 4), 1);
        for (int wrong : WRONG) {
            Check.dueThrow("mention by " + wrong, INDEX, () -> web.mention(wrong, 0));
            Check.dueThrow("mention of " + wrong, INDEX, () -> web.mention(0, wrong));
        }
    }

    // Promises 10 to 12.
    private static void lostLetters() {
        LetterWeb web = web(3, 5, "01");
        web.date(0, 100, 'n', 1);
        Check.due("lost", web.lost(0, 2, 1), 1);
        Check.due("is lost", web.isLost(1), true);
        Check.due("the other one is not", web.isLost(0), false);
        Check.due("its writer", web.personOf(1, true), 2);
        Check.due("its reader", web.personOf(1, false), 1);
        range("the lost one", web, 1, 0, 100);
        arrives("the lost one", web, 1, 0, 100);
        Check.due("a lost one that a lost one mentions", web.lost(1, 0, 1), 2);
        web.date(1, 60, 'n', 1);
        arrives("the second lost one", web, 2, 0, 60);
        Check.dueThrow("of one person", ARGUMENT, () -> web.lost(0, 2, 2));
        for (int wrong : WRONG) {
            Check.dueThrow("lost by letter " + wrong, INDEX, () -> web.lost(wrong, 2, 2));
            Check.dueThrow("lost by person " + wrong, INDEX, () -> web.lost(0, wrong, 1));
            Check.dueThrow("lost to person " + wrong, INDEX, () -> web.lost(0, 1, wrong));
        }
    }

    // Promises 13 to 16 and 21.
    private static void dates() {
        LetterWeb web = web(2, 0, "01", "10", "01", "10", "01", "10", "01", "10");
        Check.due("nothing dated costs nothing", web.price(), 0);
        Check.due("nothing dated has one combination", web.readings(), 1);
        for (int wrong : WRONG) {
            Check.dueThrow("date of " + wrong, INDEX, () -> web.date(wrong, -1, 'x', 0));
            Check.dueThrow("undate of " + wrong, INDEX, () -> web.undate(wrong));
            Check.dueThrow("belief of " + wrong, INDEX, () -> web.belief(wrong));
        }
        Check.dueThrow("day below 0", ARGUMENT, () -> web.date(0, -1, 'n', 1));
        Check.dueThrow("day above 999", ARGUMENT, () -> web.date(0, 1000, 'n', 1));
        Check.dueThrow("price 0", ARGUMENT, () -> web.date(0, 1, 'n', 0));
        Check.dueThrow("price 10", ARGUMENT, () -> web.date(0, 1, 'n', 10));
        Check.dueThrow("no such calendar", ARGUMENT, () -> web.date(0, 1, 'N', 1));
        Check.dueThrow("undate what is not dated", ELEMENT, () -> web.undate(0));
        Check.dueThrow("belief of what is not dated", ELEMENT, () -> web.belief(0));
        Check.due("new calendar", web.date(0, 0, 'n', 9), 1);
        Check.due("old calendar", web.date(1, 989, 'o', 1), 2);
        Check.due("one of both", web.date(2, 500, '?', 5), 3);
        range("the new calendar tells the day", web, 0, 0, 0);
        range("the old calendar is 10 days later", web, 1, 999, 999);
        range("one of both", web, 2, 500, 510);
        Check.due("a day between is had by neither", web.canBe(2, true, 505), false);
        Check.due("two readings", web.readings(), 2);
        Check.due("each is believed, in one reading or the other", web.belief(2), 'a');
        Check.dueThrow("dated twice", UNSUPPORTED, () -> web.date(0, 7, 'n', 1));
        Check.dueThrow("a wrong date of a dated one", ARGUMENT, () -> web.date(0, 1000, 'n', 1));
        for (int letter = 3; letter < 7; letter++) {
            Check.due("date", web.date(letter, 990, letter == 3 ? 'o' : 'n', 2), letter + 1);
        }
        Check.due("a day behind the last one is not believed", web.belief(3), 'n');
        Check.due("which costs its price", web.price(), 2);
        Check.dueThrow("an eighth date", STATE, () -> web.date(7, 1, 'n', 1));
        Check.dueThrow("an eighth date of a dated one", UNSUPPORTED, () -> web.date(6, 1, 'n', 1));
        Check.due("undate", web.undate(3), 990);
        Check.due("without it nothing is paid", web.price(), 0);
        range("without it all days are left", web, 3, 0, 999);
        Check.due("another one in its place", web.date(7, 1, 'n', 1), 7);
        Check.due("undate tells the day that was told", web.undate(1), 989);
        Check.due("a date anew", web.date(1, 3, 'n', 1), 7);
        range("a date anew", web, 1, 3, 3);
        prices();
        lastOldDay();
    }

    private static void prices() {
        LetterWeb web = web(2, 0, "01", "10", "01");
        web.answer(1, 0);
        web.answer(2, 1);
        web.date(0, 300, 'n', 3);
        web.date(1, 200, 'n', 2);
        Check.due("the cheaper one is not believed", web.price(), 2);
        Check.due("the dearer one is", web.belief(0), 'a');
        Check.due("the cheaper one isn't", web.belief(1), 'n');
        Check.due("one combination", web.readings(), 1);
        range("without the disbelieved date", web, 1, 300, 999);
        web.date(2, 100, 'n', 1);
        Check.due("both cheap ones are as dear as the dear one", web.price(), 3);
        Check.due("one of the three alone is believed", web.readings(), 1);
        web.undate(2);
        web.date(2, 200, '?', 1);
        Check.due("two that fit are worth as much as one", web.price(), 3);
        Check.due("three combinations", web.readings(), 3);
        Check.due("believed in some", web.belief(0), 's');
        Check.due("believed in the others", web.belief(1), 's');
        range("over all combinations", web, 1, 200, 999);
        Check.due("what only one combination has", web.canBe(1, true, 300), true);
        Check.due("what no combination has", web.canBe(1, true, 299), false);
        web.undate(0);
        web.date(0, 205, 'n', 9);
        Check.due("the reading that fits", web.price(), 2);
        range("the reading that fits", web, 2, 210, 210);
        Check.due("the old reading alone", web.readings(), 1);
    }

    private static void lastOldDay() {
        LetterWeb web = web(2, 2, "01");
        web.date(0, 988, 'o', 1);
        Check.due("the letter would arrive too late", web.belief(0), 'n');
        web.undate(0);
        web.date(0, 987, 'o', 1);
        arrives("on the very last day", web, 0, 999, 999);
        web.undate(0);
        web.date(0, 990, '?', 1);
        range("one reading only is within the days", web, 0, 990, 990);
        Check.due("and it alone counts", web.readings(), 1);
    }

    // Promises 17 to 19.
    private static void ranges() {
        LetterWeb web = web(2, 1);
        web.route(0, 0, 2, 4);
        add(web, "01");
        add(web, "10");
        web.answer(1, 0);
        web.date(0, 100, '?', 1);
        range("of both readings", web, 0, 100, 110);
        arrives("of both readings", web, 0, 102, 114);
        Check.due("day of the first reading", web.canBe(0, true, 100), true);
        Check.due("day of the second reading", web.canBe(0, true, 110), true);
        Check.due("a day between", web.canBe(0, true, 101), false);
        Check.due("the last arrival of the first reading", web.canBe(0, false, 104), true);
        Check.due("an arrival between", web.canBe(0, false, 105), false);
        Check.due("an arrival between", web.canBe(0, false, 111), false);
        Check.due("the first arrival of the second reading", web.canBe(0, false, 112), true);
        Check.due("behind all", web.canBe(0, false, 115), false);
        Check.due("the answer can be of a day between", web.canBe(1, true, 107), true);
        Check.due("the answer can't be earlier", web.canBe(1, true, 101), false);
        Check.due("the answer has a bound behind", web.canBe(1, true, 998), false);
        Check.due("far away", web.canBe(0, true, Integer.MAX_VALUE), false);
        Check.due("far ahead", web.canBe(0, true, Integer.MIN_VALUE), false);
        for (int wrong : WRONG) {
            Check.dueThrow("canBe of " + wrong, INDEX, () -> web.canBe(wrong, true, 5));
        }
        web.date(1, 105, 'n', 1);
        Check.due("a bound from behind leaves one reading", web.readings(), 1);
        arrives("it must be there by then", web, 0, 102, 104);
        web.undate(1);
        web.date(1, 103, 'n', 1);
        arrives("it must be there by then, nearer", web, 0, 102, 103);
    }

    // Promise 20.
    private static void orders() {
        LetterWeb web = web(2, 1, "01", "10", "01", "10");
        web.answer(1, 0);
        Check.due("ahead", web.order(0, 1), 'b');
        Check.due("behind", web.order(1, 0), 'a');
        Check.due("itself", web.order(2, 2), '=');
        Check.due("not known", web.order(0, 2), '?');
        web.mention(2, 1);
        Check.due("ahead by a third one", web.order(0, 2), 'b');
        Check.due("ahead, or on the day", web.order(1, 2), '?');
        web.mention(3, 2);
        web.mention(2, 3);
        Check.due("on the same day, whatever day that is", web.order(3, 2), '=');
        LetterWeb dated = web(2, 1, "01", "10");
        dated.date(0, 100, '?', 1);
        dated.date(1, 105, 'n', 1);
        Check.due("by one reading ahead, by the other behind", dated.order(0, 1), '?');
        dated.undate(1);
        dated.date(1, 99, 'n', 1);
        Check.due("behind by both readings", dated.order(0, 1), 'a');
        dated.undate(1);
        dated.date(1, 110, 'n', 1);
        Check.due("ahead or the same", dated.order(0, 1), '?');
        for (int wrong : WRONG) {
            Check.dueThrow("order of " + wrong, INDEX, () -> dated.order(wrong, 0));
            Check.dueThrow("order to " + wrong, INDEX, () -> dated.order(0, wrong));
        }
    }

    // Promises 22 to 24.
    private static void facts() {
        LetterWeb web = web(4, 1, "01", "12");
        Check.due("fact", web.fact(0, 0), 0);
        Check.due("fact", web.fact(3, 999), 1);
        Check.dueThrow("day below 0", ARGUMENT, () -> web.fact(0, -1));
        Check.dueThrow("day above 999", ARGUMENT, () -> web.fact(0, 1000));
        for (int wrong : WRONG) {
            Check.dueThrow("finder " + wrong, INDEX, () -> web.fact(wrong, -1));
            Check.dueThrow("tell by " + wrong, INDEX, () -> web.tell(wrong, 0));
            Check.dueThrow("tell of " + wrong, INDEX, () -> web.tell(0, wrong));
            Check.dueThrow("show of " + wrong, INDEX, () -> web.show(wrong, 3));
            Check.dueThrow("show to " + wrong, INDEX, () -> web.show(0, wrong));
        }
        for (int fact = 2; fact < 5; fact++) {
            Check.due("fact", web.fact(1, fact), fact);
        }
        Check.dueThrow("a sixth fact", STATE, () -> web.fact(1, 1));
        Check.dueThrow("a sixth fact of a wrong day", ARGUMENT, () -> web.fact(1, 1000));
        Check.due("tell", web.tell(0, 4), 1);
        Check.due("tell another", web.tell(0, 0), 2);
        Check.due("tell by another letter", web.tell(1, 0), 1);
        Check.dueThrow("told already", UNSUPPORTED, () -> web.tell(0, 4));
        Check.due("show", web.show(0, 3), 1);
        Check.due("show to another", web.show(0, 2), 2);
        Check.dueThrow("shown already", UNSUPPORTED, () -> web.show(0, 3));
        Check.dueThrow("shown to its writer", UNSUPPORTED, () -> web.show(0, 0));
        Check.dueThrow("shown to its reader", UNSUPPORTED, () -> web.show(0, 1));
        web.lost(0, 0, 1);
        Check.dueThrow("a lost one tells", UNSUPPORTED, () -> web.tell(2, 0));
        Check.dueThrow("a lost one is shown", UNSUPPORTED, () -> web.show(2, 3));
        Check.dueThrow("a lost one tells no such fact", INDEX, () -> web.tell(2, 5));
    }

    // Promises 25 to 27.
    private static void chains() {
        LetterWeb web = web(7, 5, "01", "12", "23", "34", "45");
        web.fact(0, 100);
        knows("the finder", web, 0, 0, 100);
        knowsNot("not told", web, 1, 0);
        for (int letter = 0; letter < 5; letter++) {
            web.tell(letter, 0);
        }
        knows("one letter", web, 1, 0, 105, 0);
        knows("two letters", web, 2, 0, 110, 0, 1);
        knows("four letters", web, 4, 0, 120, 0, 1, 2, 3);
        knowsNot("five letters are too many", web, 5, 0);
        knowsNot("nobody wrote to this one", web, 6, 0);
        web.show(2, 6);
        knows("shown on the day of arrival", web, 6, 0, 115, 0, 1, 2);
        web.show(0, 3);
        knows("shown early, a shorter way", web, 4, 0, 110, 0, 3);
        knows("and the next one is near enough", web, 5, 0, 115, 0, 3, 4);
        web.date(3, 50, 'n', 9);
        knows("the short way is shut by a date", web, 3, 0, 105, 0);
        knowsNot("and no way is left", web, 4, 0);
        web.undate(3);
        web.date(3, 112, 'n', 9);
        knows("the last letter is dated", web, 4, 0, 117, 0, 3);
        web.date(0, 99, 'n', 8);
        knowsNot("written ahead of the find", web, 1, 0);
        web.undate(0);
        web.date(0, 99, '?', 8);
        knows("by the other reading", web, 1, 0, 114, 0);
        knowsNot("but then the last letter comes ahead of it", web, 4, 0);
        for (int wrong : WRONG) {
            Check.dueThrow("knows by " + wrong, INDEX, () -> web.knows(wrong, 0));
            Check.dueThrow("knows of " + wrong, INDEX, () -> web.knows(0, wrong));
            Check.dueThrow("chain for " + wrong, INDEX, () -> web.chain(wrong, 0));
            Check.dueThrow("chain of " + wrong, INDEX, () -> web.chain(0, wrong));
            Check.dueThrow("chainAt for " + wrong, INDEX, () -> web.chainAt(wrong, 0, 0));
            Check.dueThrow("chainAt of " + wrong, INDEX, () -> web.chainAt(0, wrong, 0));
            Check.dueThrow("chainAt index " + wrong, ELEMENT, () -> web.chainAt(1, 0, wrong));
        }
        LetterWeb late = web(2, 1, "01");
        late.fact(0, 999);
        late.tell(0, 0);
        knowsNot("no day is left for the letter", late, 1, 0);
        LetterWeb mentioned = web(3, 0, "01", "12");
        mentioned.mention(0, 1);
        mentioned.fact(0, 10);
        mentioned.tell(0, 0);
        mentioned.tell(1, 0);
        mentioned.date(0, 20, 'n', 1);
        knows("both on the day of the first", mentioned, 2, 0, 20, 0, 1);
    }

    private static void tiesOfChains() {
        LetterWeb web = web(4, 0, "01", "13", "02", "23", "03");
        web.fact(0, 10);
        for (int letter = 0; letter < 4; letter++) {
            web.tell(letter, 0);
        }
        knows("of like chains that of the lower letters", web, 3, 0, 10, 0, 1);
        web.date(1, 12, 'n', 1);
        knows("the lesser day ahead of the lower letters", web, 3, 0, 10, 2, 3);
        web.tell(4, 0);
        knows("of like days that of fewer letters", web, 3, 0, 10, 4);
        web.date(4, 11, 'n', 1);
        knows("the lesser day ahead of fewer letters", web, 3, 0, 10, 2, 3);
        web.date(3, 11, 'n', 1);
        knows("fewer letters again", web, 3, 0, 11, 4);

        LetterWeb readings = web(2, 0, "01", "01");
        readings.fact(0, 0);
        readings.tell(0, 0);
        readings.tell(1, 0);
        readings.date(0, 50, '?', 1);
        readings.date(1, 50, '?', 1);
        knows("lower letters over all readings", readings, 1, 0, 50, 0);
        readings.undate(0);
        readings.date(0, 50, 'o', 1);
        knows("a lesser day in some readings", readings, 1, 0, 50, 1);
    }

    // Promise 28.
    private static void priorities() {
        LetterWeb web = web(5, 5, "01", "12");
        web.fact(0, 100);
        web.tell(0, 0);
        web.tell(1, 0);
        web.show(0, 4);
        Check.due("the finder", web.priority(0, 0, 2), 0);
        Check.due("the finder, named behind", web.priority(0, 2, 0), 0);
        Check.due("the earlier one", web.priority(0, 2, 1), 1);
        Check.due("the same day", web.priority(0, 4, 1), -1);
        Check.due("itself", web.priority(0, 1, 1), -1);
        Check.due("one can't know", web.priority(0, 3, 2), 2);
        Check.due("the other one can't know", web.priority(0, 2, 3), 2);
        web.fact(3, 5);
        Check.due("neither can know", web.priority(1, 1, 2), -1);
        for (int wrong : WRONG) {
            Check.dueThrow("priority of " + wrong, INDEX, () -> web.priority(wrong, 0, 1));
            Check.dueThrow("priority for " + wrong, INDEX, () -> web.priority(0, wrong, 1));
            Check.dueThrow("priority against " + wrong, INDEX, () -> web.priority(0, 1, wrong));
        }
    }

    // Promises 29 to 33.
    private static void holders() {
        LetterWeb web = web(3, 0, "01", "12", "20", "01");
        web.lost(0, 1, 2);
        for (int holder = 0; holder < 5; holder++) {
            Check.due("holder", web.holder(), holder);
        }
        Check.dueThrow("a sixth holder", STATE, web::holder);
        Check.dueThrow("nobody holds it", ELEMENT, () -> web.holderOf(0));
        Check.due("put", web.put(2, 0), 1);
        Check.due("put", web.put(0, 0), 2);
        Check.due("put", web.put(1, 0), 3);
        row("in the order they were put", web, 0, 2, 0, 1);
        Check.due("put again to the same holder", web.put(2, 0), 3);
        row("behind all", web, 0, 0, 1, 2);
        Check.due("put to another holder", web.put(1, 4), 1);
        row("out of the row where it was", web, 0, 0, 2);
        row("in the other row", web, 4, 1);
        Check.dueThrow("a lost one is put", UNSUPPORTED, () -> web.put(4, 0));
        Check.dueThrow("nobody holds a lost one", ELEMENT, () -> web.holderOf(4));
        for (int wrong : WRONG) {
            Check.dueThrow("put " + wrong, INDEX, () -> web.put(wrong, 0));
            Check.dueThrow("put to " + wrong, INDEX, () -> web.put(4, wrong));
            Check.dueThrow("holderOf " + wrong, INDEX, () -> web.holderOf(wrong));
            Check.dueThrow("held by " + wrong, INDEX, () -> web.held(wrong));
            Check.dueThrow("heldAt by " + wrong, INDEX, () -> web.heldAt(wrong, 0));
            Check.dueThrow("heldAt index " + wrong, ELEMENT, () -> web.heldAt(0, wrong));
        }
        Check.due("is sound", web.isSound(), true);
    }

    // Promise 34.
    private static void sales() {
        LetterWeb web = web(4, 0, "01", "12", "20", "01", "21", "02");
        for (int holder = 0; holder < 3; holder++) {
            web.holder();
        }
        for (int letter = 0; letter < 6; letter++) {
            web.put(letter, 0);
        }
        Check.due("of or to a person", web.sell(0, 1, 2, 3), 3);
        row("what is left", web, 0, 0, 3, 5);
        row("in their order", web, 1, 1, 2, 4);
        Check.due("of all", web.sell(0, 1, -1, 2), 2);
        row("the first ones are sold", web, 0, 5);
        row("behind what the other one has", web, 1, 1, 2, 4, 0, 3);
        Check.due("as many as there are", web.sell(1, 2, 0, Integer.MAX_VALUE), 3);
        row("those of the person alone", web, 2, 2, 0, 3);
        row("the others stay", web, 1, 1, 4);
        Check.due("none of that person", web.sell(1, 2, 3, 9), 0);
        Check.due("one alone", web.sell(0, 1, -1, 1), 1);
        Check.due("from an empty row", web.sell(0, 1, -1, 9), 0);
        Check.dueThrow("to itself", ARGUMENT, () -> web.sell(1, 1, -1, 1));
        Check.dueThrow("none", ARGUMENT, () -> web.sell(1, 0, -1, 0));
        Check.dueThrow("fewer than none", ARGUMENT, () -> web.sell(1, 0, -1, Integer.MIN_VALUE));
        Check.dueThrow("holder 3", INDEX, () -> web.sell(3, 3, -1, 0));
        Check.dueThrow("other 3", INDEX, () -> web.sell(0, 3, -1, 0));
        Check.dueThrow("holder -1", INDEX, () -> web.sell(-1, 0, -1, 1));
        Check.dueThrow("other -1", INDEX, () -> web.sell(0, -1, -1, 1));
        Check.dueThrow("person 4", INDEX, () -> web.sell(0, 0, 4, 0));
        Check.dueThrow("person -2", INDEX, () -> web.sell(0, 0, -2, 0));
        row("what was refused changed nothing", web, 1, 1, 4, 5);
    }

    // Promises 35 and 36.
    private static void editions() {
        LetterWeb web = web(2, 0, "01", "10", "01", "10");
        web.date(0, 300, 'n', 1);
        web.date(1, 200, '?', 1);
        web.date(2, 200, 'n', 1);
        Check.dueThrow("no number yet", ELEMENT, () -> web.numberOf(0));
        Check.due("publish", web.publish(), 4);
        numbers("by the least day, then the greatest", web, 400, 300, 200, 100);
        Check.due("publish again", web.publish(), 0);
        web.undate(0);
        numbers("numbers stay", web, 400, 300, 200, 100);
        add(web, "01");
        add(web, "01");
        web.date(4, 250, 'n', 1);
        web.date(5, 100, 'n', 1);
        Check.due("publish later", web.publish(), 2);
        numbers("behind the last one whose day is not greater by now", web, 400, 300, 200, 100, 402, 401);
        for (int wrong : WRONG) {
            Check.dueThrow("numberOf " + wrong, INDEX, () -> web.numberOf(wrong));
        }
        laterParts();
        like();
    }

    private static void laterParts() {
        LetterWeb web = web(2, 0, "01", "01");
        web.date(0, 100, 'n', 1);
        web.date(1, 200, 'n', 1);
        web.publish();
        numbers("first", web, 100, 200);
        int[] days = {150, 50, 60, 250, 200};
        for (int day : days) {
            web.date(add(web, "10"), day, 'n', 1);
        }
        Check.due("publish later", web.publish(), 5);
        numbers("parts, and number 0", web, 100, 200, 101, 1, 2, 202, 201);
        web.undate(0);
        web.undate(6);
        web.date(add(web, "01"), 20, 'n', 1);
        web.publish();
        numbers("one behind the greatest part", web, 100, 200, 101, 1, 2, 202, 201, 203);
        Check.due("is sound", web.isSound(), true);
        LetterWeb empty = web(2, 1);
        Check.due("publish nothing", empty.publish(), 0);
        add(empty, "01");
        empty.publish();
        numbers("the first that has one is number 1", empty, 100);
    }

    private static void like() {
        LetterWeb web = web(2, 0, "01", "10", "01");
        web.mention(0, 1);
        web.lost(2, 0, 1);
        web.publish();
        numbers("of like days by their numbers, lost ones too", web, 100, 200, 300, 400);
    }

    // Promises 37 and 38.
    private static void networks() {
        LetterWeb web = web(7, 0, "01", "12", "23", "02");
        Check.due("on a ring", web.broker(0), 0);
        Check.due("at a bridge", web.broker(2), 2);
        Check.due("at an end", web.broker(3), 0);
        Check.due("between two neighbours", web(3, 0, "02", "21").broker(2), 1);
        Check.due("not joined at all", web.broker(6), 0);
        add(web, "45");
        Check.due("two parts", web.broker(4), 0);
        add(web, "34");
        Check.due("in the middle of a row", web.broker(3), 6);
        Check.due("behind the middle", web.broker(4), 4);
        web.lost(0, 6, 5);
        Check.due("a lost letter joins nobody", web.broker(5), 0);
        add(web, "65");
        Check.due("a letter joins", web.broker(5), 5);
        for (int wrong : WRONG) {
            Check.dueThrow("broker " + wrong, INDEX, () -> web.broker(wrong));
            Check.dueThrow("silence of " + wrong, INDEX, () -> web.silence(wrong, 0));
            Check.dueThrow("silence with " + wrong, INDEX, () -> web.silence(0, wrong));
        }
        silences();
    }

    private static void silences() {
        LetterWeb web = web(3, 0, "01", "10", "01", "12", "02");
        int[] days = {500, 100, 140, 300, 301};
        for (int letter = 0; letter < 5; letter++) {
            web.date(letter, days[letter], letter == 2 ? '?' : 'n', 1);
        }
        Check.due("the greatest gap", web.silence(0, 1), 360);
        Check.due("either way round", web.silence(1, 0), 360);
        Check.dueThrow("one letter only", ELEMENT, () -> web.silence(1, 2));
        Check.dueThrow("with oneself", ELEMENT, () -> web.silence(1, 1));
        web.lost(0, 1, 2);
        Check.dueThrow("a lost letter does not count", ELEMENT, () -> web.silence(1, 2));
        web.lost(3, 0, 1);
        web.date(6, 250, 'n', 1);
        Check.due("a lost letter does not break a silence", web.silence(0, 1), 360);
        add(web, "21");
        Check.due("two letters", web.silence(2, 1), 300);
        LetterWeb same = web(2, 0, "01", "10");
        Check.due("on one day", same.silence(0, 1), 0);
    }

    // Promises 39 to 42.
    private static void figures() {
        LetterWeb web = web(2, 1);
        Check.due("checksum of nothing", web.checksum(), 7L);
        Check.due("nothing is sound", web.isSound(), true);
        Check.dueThrow("width of nothing", ARITHMETIC, web::meanWidth);
        Check.dueThrow("share of nothing", ARITHMETIC, web::sureShare);
        add(web, "01");
        add(web, "10");
        add(web, "01");
        Check.dueThrow("share of no dates", ARITHMETIC, web::sureShare);
        Check.due("width without dates", web.meanWidth(), 999.0);
        web.answer(1, 0);
        web.date(0, 100, '?', 1);
        Check.due("share of one", web.sureShare(), 1.0f);
        web.date(1, 50, 'n', 1);
        Check.due("one of two is believed in some alone", web.sureShare(), 0.0f);
        web.date(2, 300, 'n', 1);
        Check.due("a third is sure", web.sureShare(), 1.0f / 3.0f);
        Check.due("width", web.meanWidth(), (110.0 + 949.0 + 0.0) / 3.0);
        long sum = 7;
        for (int value : new int[] {0, 110, 0, 50, 999, 0, 300, 300, 0}) {
            sum = sum * 31 + value;
        }
        Check.due("checksum", web.checksum(), sum);
        web.publish();
        sum = 7;
        for (int value : new int[] {0, 110, 100, 50, 999, 200, 300, 300, 300}) {
            sum = sum * 31 + value;
        }
        Check.due("checksum of the edition", web.checksum(), sum);
        Check.due("is sound", web.isSound(), true);
        web.lost(2, 1, 0);
        Check.due("width with a lost one", web.meanWidth(), (110.0 + 949.0 + 0.0 + 300.0) / 4.0);
    }
}
