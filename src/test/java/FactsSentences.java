/** The sentences of 'Terms' on facts, each with the cases at its edges. */
final class FactsSentences extends Webs {
    private FactsSentences() {
    }

    static void all() {
        limits();
        onArrival();
        lengths();
        firstOnes();
        nextOnes();
        lastOnes();
        lostOnes();
        finders();
        leastDays();
        combinations();
        ties();
        priorities();
        without();
    }

    /** Lets each letter tell a fact. */
    private static void tellAll(LetterWeb web, int letters, int fact) {
        for (int letter = 0; letter < letters; letter++) {
            web.tell(letter, fact);
        }
    }

    private static void limits() {
        Document.said("Facts. At most 5 facts have numbers from 0 on, each found by a person on a day, 0 to 999.");
        LetterWeb web = web(6, 0, "50");
        int[] days = {0, 999, 1, 998, 500};
        int[] wrong = {Integer.MIN_VALUE, -1, 1000, Integer.MAX_VALUE};
        for (int fact = 0; fact < 5; fact++) {
            int number = fact;
            Check.dueThrow("not there yet", INDEX, () -> web.knows(0, number));
            Check.dueThrow("not to be told yet", INDEX, () -> web.tell(0, number));
            for (int day : wrong) {
                Check.dueThrow("found on day " + day, ARGUMENT, () -> web.fact(0, day));
            }
            Check.due("fact", web.fact(fact + 1, days[fact]), fact);
            knows("its finder", web, fact + 1, fact, days[fact]);
        }
        Check.dueThrow("a sixth", STATE, () -> web.fact(0, 0));
        Check.dueThrow("it is not there", INDEX, () -> web.knows(0, 5));
        Check.dueThrow("it is not to be told", INDEX, () -> web.tell(0, 5));
        Check.due("the fifth is told", web.tell(0, 4), 1);
        Check.due("the first is told", web.tell(0, 0), 2);
        Check.due("the others too", web.tell(0, 1) + web.tell(0, 2) + web.tell(0, 3), 12);
        knows("by a letter of the finder", web, 0, 4, 500, 0);
    }

    private static void onArrival() {
        Document.said("A letter may tell facts, and may be shown to persons, on the day on which it arrives.");
        LetterWeb web = web(8, 5, "01");
        web.fact(0, 10);
        for (int person = 2; person < 8; person++) {
            knowsNot("not shown yet", web, person, 0);
            Check.due("show", web.show(0, person), person - 1);
        }
        knowsNot("shown, not told", web, 7, 0);
        Check.due("tell", web.tell(0, 0), 1);
        for (int person = 1; person < 8; person++) {
            knows("on the day of arrival", web, person, 0, 15, 0);
        }
    }

    private static void lengths() {
        Document.said("A chain for a person and a fact is a row of up to 4 unlike letters that tell it:");
        LetterWeb web = web(7, 10, "01", "12", "23", "34", "45");
        web.fact(0, 100);
        knowsNot("none tells it", web, 1, 0);
        tellAll(web, 5, 0);
        knows("one letter", web, 1, 0, 110, 0);
        knows("two letters", web, 2, 0, 120, 0, 1);
        knows("three letters", web, 3, 0, 130, 0, 1, 2);
        knows("four letters", web, 4, 0, 140, 0, 1, 2, 3);
        knowsNot("five letters", web, 5, 0);
        web.show(3, 6);
        knows("the fourth is shown", web, 6, 0, 140, 0, 1, 2, 3);
        web.show(3, 5);
        knows("the fourth is shown to the next one too", web, 5, 0, 140, 0, 1, 2, 3);
        LetterWeb gap = web(4, 10, "01", "12", "23");
        gap.fact(0, 100);
        gap.tell(0, 0);
        gap.tell(2, 0);
        knows("ahead of a letter that does not tell it", gap, 1, 0, 110, 0);
        knowsNot("behind it", gap, 3, 0);
        gap.fact(0, 100);
        gap.tell(1, 1);
        knowsNot("another fact is another one", gap, 3, 0);
        gap.tell(1, 0);
        knows("now that all tell it", gap, 3, 0, 130, 0, 1, 2);
        knowsNot("the other one", gap, 2, 1);
        LetterWeb forth = web(3, 10, "01", "10", "02");
        forth.fact(0, 100);
        tellAll(forth, 3, 0);
        forth.mention(2, 1);
        forth.date(1, 300, 'n', 1);
        knows("a row need not go the way that letters went", forth, 2, 0, 310, 2);
    }

    private static void firstOnes() {
        Document.said("the first one is written by the finder, on the day of the find or later;");
        for (int day = 99; day <= 101; day++) {
            LetterWeb web = web(3, 5, "01", "21");
            web.fact(0, 100);
            tellAll(web, 2, 0);
            web.date(0, day, 'n', 1);
            if (day < 100) {
                knowsNot("a day ahead of the find", web, 1, 0);
            } else {
                knows("on day " + day, web, 1, 0, day + 5, 0);
            }
        }
        LetterWeb wide = web(2, 1);
        add(wide, "01", 0, 99);
        wide.fact(0, 100);
        wide.tell(0, 0);
        wide.date(0, 99, 'n', 1);
        knowsNot("a day ahead of the find, however long it takes", wide, 1, 0);
        LetterWeb other = web(3, 5, "21");
        other.fact(0, 100);
        other.tell(0, 0);
        knowsNot("by another one", other, 1, 0);
        LetterWeb late = web(2, 0, "01");
        late.fact(0, 999);
        late.tell(0, 0);
        knows("on the last day", late, 1, 0, 999, 0);
        LetterWeb tooLate = web(2, 1, "01");
        tooLate.fact(0, 999);
        tooLate.tell(0, 0);
        knowsNot("it would arrive behind the last day", tooLate, 1, 0);
        tooLate.fact(0, 998);
        tooLate.tell(0, 1);
        knows("it arrives on the last day", tooLate, 1, 1, 999, 0);
    }

    private static void nextOnes() {
        Document.said("each next one by one who was reader of the one ahead of it, or to whom that was shown, on the day of that "
            + "one's arrival or later;");
        for (int day = 104; day <= 106; day++) {
            LetterWeb web = web(4, 5, "01", "12", "32");
            web.fact(0, 100);
            tellAll(web, 3, 0);
            web.date(0, 100, 'n', 1);
            web.date(1, day, 'n', 1);
            web.date(2, day, 'n', 1);
            if (day < 105) {
                knowsNot("a day ahead of the arrival", web, 2, 0);
                web.show(0, 3);
                knowsNot("a day ahead of the day on which it was shown", web, 2, 0);
            } else {
                knows("on day " + day, web, 2, 0, day + 5, 0, 1);
                web.show(0, 3);
                knows("that on which it was shown", web, 3, 0, 105, 0);
                web.undate(2);
                knows("by the one to whom it was shown", web, 2, 0, 110, 0, day == 105 ? 1 : 2);
            }
        }
        LetterWeb wide = web(3, 1);
        add(wide, "01", 2, 9);
        add(wide, "12", 1, 1);
        wide.fact(0, 100);
        tellAll(wide, 2, 0);
        knows("the shortest way", wide, 2, 0, 103, 0, 1);
        wide.date(1, 110, 'n', 1);
        knows("later than that", wide, 2, 0, 111, 0, 1);
        knows("the first need not wait", wide, 1, 0, 102, 0);
    }

    private static void lastOnes() {
        Document.said("to the last one this person is reader, or it was shown to this person.");
        LetterWeb web = web(4, 5, "01", "12");
        web.fact(0, 100);
        tellAll(web, 2, 0);
        web.show(1, 3);
        knows("the reader", web, 2, 0, 110, 0, 1);
        knows("to whom it was shown", web, 3, 0, 110, 0, 1);
        web.show(0, 3);
        knows("to whom the first was shown too", web, 3, 0, 105, 0);
        web.show(0, 2);
        knows("the reader of the last to whom the first was shown", web, 2, 0, 105, 0);
        knows("the writer of the last is reader of the first", web, 1, 0, 105, 0);
    }

    private static void lostOnes() {
        Document.said("A lost letter tells and is shown nothing.");
        LetterWeb web = web(3, 5, "20");
        web.lost(0, 0, 1);
        web.fact(0, 100);
        Check.dueThrow("tells", UNSUPPORTED, () -> web.tell(1, 0));
        Check.dueThrow("is shown", UNSUPPORTED, () -> web.show(1, 2));
        Check.dueThrow("is shown to its writer", UNSUPPORTED, () -> web.show(1, 0));
        knowsNot("its reader", web, 1, 0);
        Check.due("the letter that mentions it tells", web.tell(0, 0), 1);
        Check.due("and is shown", web.show(0, 1), 1);
        knowsNot("but is not the finder's", web, 1, 0);
    }

    private static void finders() {
        Document.said("Who found it knows it from that day on, by no letters.");
        LetterWeb web = web(2, 0, "01", "10");
        web.fact(0, 0);
        web.fact(0, 999);
        tellAll(web, 2, 0);
        tellAll(web, 2, 1);
        knows("from the first day on", web, 0, 0, 0);
        knows("from the last day on", web, 0, 1, 999);
        knows("the other one on the same day", web, 1, 1, 999, 0);
        web.date(1, 5, 'n', 1);
        knows("whatever is written to the finder", web, 0, 1, 999);
    }

    private static void leastDays() {
        Document.said("One can know a fact by the least day on which a chain ends in some history that counts, together with what the "
            + "chain asks;");
        LetterWeb web = web(3, 5, "01", "12", "01");
        web.fact(0, 10);
        tellAll(web, 2, 0);
        knows("the least day", web, 2, 0, 20, 0, 1);
        web.mention(0, 2);
        web.date(2, 50, 'n', 1);
        knows("what is told of the first letter", web, 2, 0, 60, 0, 1);
        web.mention(2, 1);
        knowsNot("the second must be ahead of the first", web, 2, 0);
        knows("the first alone", web, 1, 0, 55, 0);
        LetterWeb bound = web(3, 1);
        add(bound, "01", 0, 20);
        add(bound, "12", 0, 20);
        bound.fact(0, 100);
        tellAll(bound, 2, 0);
        knows("all on one day", bound, 2, 0, 100, 0, 1);
        bound.enclose(1, 0);
        knows("one on which the second one is enclosed in the first too", bound, 2, 0, 100, 0, 1);
        bound.date(0, 90, 'n', 1);
        knowsNot("written ahead of the find", bound, 2, 0);
        round();
        LetterWeb filled = web(3, 99, "01", "12");
        filled.fact(0, 801);
        tellAll(filled, 2, 0);
        knows("the last day is enough", filled, 2, 0, 999, 0, 1);
        filled.fact(0, 802);
        filled.tell(0, 1);
        filled.tell(1, 1);
        knowsNot("a day later is not", filled, 2, 1);
        knows("but for the first letter", filled, 1, 1, 901, 0);
    }

    /** A first letter that mentions the last one, so that all must be written on one day. */
    private static void round() {
        for (int day = 10; day <= 12; day++) {
            LetterWeb web = web(4, 1);
            add(web, "01", 0, 5);
            add(web, "12", 0, 5);
            add(web, "23", 0, 5);
            web.mention(0, 2);
            web.fact(0, 8);
            tellAll(web, 3, 0);
            web.date(1, 11, 'n', 1);
            knows("on the day of the second", web, 3, 0, 11, 0, 1, 2);
            web.date(0, day, 'n', 1);
            if (day == 11) {
                knows("on day " + day, web, 3, 0, 11, 0, 1, 2);
            } else {
                knowsNot("on day " + day, web, 3, 0);
                knows("the first alone on day " + day, web, 1, 0, day, 0);
            }
        }
        LetterWeb slow = web(4, 1);
        add(slow, "01", 0, 5);
        add(slow, "12", 1, 5);
        add(slow, "23", 0, 5);
        slow.mention(0, 2);
        slow.fact(0, 8);
        tellAll(slow, 3, 0);
        knowsNot("the second takes a day", slow, 3, 0);
        knows("but for two letters", slow, 2, 0, 9, 0, 1);
    }

    private static void combinations() {
        Check.about("in some history that counts");
        LetterWeb web = web(3, 5, "01", "12");
        web.fact(0, 100);
        tellAll(web, 2, 0);
        web.date(0, 100, '?', 1);
        knows("by the reading that is less", web, 1, 0, 105, 0);
        web.date(1, 110, 'n', 1);
        knows("two letters by that reading alone", web, 2, 0, 115, 0, 1);
        web.undate(0);
        web.date(0, 90, '?', 1);
        knows("by the other reading alone", web, 1, 0, 105, 0);
        web.undate(1);
        web.date(1, 104, 'n', 1);
        knowsNot("readings are not mixed", web, 2, 0);
        LetterWeb four = web(5, 5, "34", "23", "12", "01");
        four.fact(0, 100);
        tellAll(four, 4, 0);
        four.date(3, 200, '?', 1);
        knows("four letters in each of two combinations", four, 4, 0, 220, 3, 2, 1, 0);
        four.date(0, 215, '?', 1);
        knows("in three of four combinations", four, 4, 0, 220, 3, 2, 1, 0);
        four.undate(0);
        four.date(0, 225, 'n', 1);
        knows("on the same day in two combinations", four, 4, 0, 230, 3, 2, 1, 0);
        LetterWeb paid = web(2, 5, "01", "10");
        paid.fact(0, 100);
        paid.tell(0, 0);
        paid.answer(1, 0);
        paid.date(0, 50, 'n', 2);
        knowsNot("a history of a higher price does not count", paid, 1, 0);
        paid.date(1, 20, 'n', 2);
        knowsNot("neither one leaves days for it", paid, 1, 0);
        paid.undate(1);
        paid.undate(0);
        paid.date(0, 300, 'n', 2);
        paid.date(1, 200, 'n', 2);
        knows("where the later date is not believed", paid, 1, 0, 105, 0);
        paid.undate(1);
        paid.date(1, 200, 'n', 1);
        knows("where it alone is believed", paid, 1, 0, 305, 0);
    }

    private static void ties() {
        Document.said("of several chains with that day the one with fewest letters, then that with the lower letters, one by one.");
        LetterWeb web = web(5, 0, "34", "02", "14", "01", "03", "24", "04");
        web.fact(0, 10);
        for (int letter = 0; letter < 6; letter++) {
            web.tell(letter, 0);
        }
        knows("the first letter is the lower one, whatever the second", web, 4, 0, 10, 1, 5);
        web.date(5, 500, 'n', 1);
        knows("a later day is left out", web, 4, 0, 10, 3, 2);
        web.date(2, 500, 'n', 1);
        knows("another one", web, 4, 0, 10, 4, 0);
        web.undate(2);
        web.tell(6, 0);
        knows("fewest letters ahead of lower ones", web, 4, 0, 10, 6);
        web.date(6, 11, 'n', 1);
        knows("a lesser day ahead of fewer letters", web, 4, 0, 10, 3, 2);
        LetterWeb second = web(3, 0, "12", "01", "12", "01");
        second.fact(0, 10);
        tellAll(second, 4, 0);
        knows("of both letters the lower ones", second, 2, 0, 10, 1, 0);
        second.date(0, 20, 'n', 1);
        knows("the second letter tells them apart", second, 2, 0, 10, 1, 2);
        second.date(1, 20, 'n', 1);
        knows("then the first", second, 2, 0, 10, 3, 2);
        LetterWeb readings = web(2, 0, "01", "01");
        readings.fact(0, 0);
        tellAll(readings, 2, 0);
        readings.date(0, 100, '?', 1);
        readings.date(1, 100, '?', 1);
        knows("the lower one over all combinations", readings, 1, 0, 100, 0);
        readings.undate(0);
        readings.date(0, 101, '?', 1);
        knows("the lesser day over all combinations", readings, 1, 0, 100, 1);
    }

    private static void priorities() {
        Document.said("Of two persons the one with the lesser day has priority.");
        LetterWeb web = web(5, 0, "01", "02", "03");
        web.fact(0, 100);
        tellAll(web, 3, 0);
        web.date(0, 101, 'n', 1);
        web.date(1, 102, 'n', 1);
        web.date(2, 102, 'n', 1);
        Check.due("a day less", web.priority(0, 1, 2), 1);
        Check.due("a day less, named behind", web.priority(0, 2, 1), 1);
        Check.due("the same day", web.priority(0, 2, 3), -1);
        Check.due("the finder", web.priority(0, 1, 0), 0);
        Check.due("the finder alone", web.priority(0, 0, 0), -1);
        Check.due("one who can't know", web.priority(0, 4, 3), 3);
        Check.due("one who can't know, named behind", web.priority(0, 3, 4), 3);
        Check.due("the same one, who can't know", web.priority(0, 4, 4), -1);
        web.undate(0);
        Check.due("the finder and one who knows it on that day", web.priority(0, 0, 1), -1);
        web.fact(4, 999);
        Check.due("neither can know", web.priority(1, 0, 1), -1);
        Check.due("found on the last day, against one who can't know", web.priority(1, 0, 4), 4);
    }

    private static void without() {
        Check.about("facts of an object without letters");
        LetterWeb web = web(2, 0);
        web.fact(1, 5);
        knows("the finder", web, 1, 0, 5);
        knowsNot("another one", web, 0, 0);
        Check.due("priority", web.priority(0, 0, 1), 1);
    }
}
