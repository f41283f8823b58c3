/** The sentences of 'Terms' on holders, the edition, networks and exceptions, each with the cases at its edges. */
final class EditionSentences extends Webs {
    private EditionSentences() {
    }

    static void all() {
        holderLimit();
        puts();
        sales();
        fullRows();
        publishesAll();
        firstNumbers();
        laterOnes();
        parts();
        numberZero();
        numbersStay();
        fullEdition();
        joined();
        brokers();
        silences();
        exceptions();
    }

    private static LetterWeb heldWeb(String... pairs) {
        LetterWeb web = web(4, 0, pairs);
        for (int holder = 0; holder < 3; holder++) {
            web.holder();
        }
        for (int letter = 0; letter < pairs.length; letter++) {
            web.put(letter, 0);
        }
        return web;
    }

    private static void holderLimit() {
        Document.said("Holders. At most 5 holders have numbers from 0 on, each with a row of letters.");
        LetterWeb web = web(2, 0, "01", "01", "01", "01", "01");
        for (int holder = 0; holder < 5; holder++) {
            int number = holder;
            Check.dueThrow("not there yet", INDEX, () -> web.held(number));
            Check.dueThrow("nothing is put to it yet", INDEX, () -> web.put(0, number));
            Check.due("holder", web.holder(), holder);
            row("empty", web, holder);
            Check.due("put", web.put(holder, holder), 1);
            row("a row of its own", web, holder, holder);
        }
        Check.dueThrow("a sixth", STATE, web::holder);
        Check.dueThrow("it is not there", INDEX, () -> web.held(5));
        Check.dueThrow("nothing is put to it", INDEX, () -> web.put(0, 5));
        row("the first has what it had", web, 0, 0);
        row("the fifth has what it had", web, 4, 4);
    }

    private static void puts() {
        Document.said("A letter that is not lost is put to a holder, behind all that this one has, out of the row where it was.");
        LetterWeb web = heldWeb("01", "12", "20");
        row("behind all", web, 0, 0, 1, 2);
        Check.due("the first again", web.put(0, 0), 3);
        row("the first again", web, 0, 1, 2, 0);
        Check.due("the last again", web.put(0, 0), 3);
        row("the last again", web, 0, 1, 2, 0);
        Check.due("the one in the midst to another one", web.put(2, 1), 1);
        row("out of the row", web, 0, 1, 0);
        row("in the other one", web, 1, 2);
        Check.due("behind it", web.put(1, 1), 2);
        row("behind it", web, 1, 2, 1);
        Check.due("the only one back", web.put(0, 1), 3);
        row("nothing is left", web, 0);
        web.lost(0, 1, 2);
        Check.dueThrow("a lost one", UNSUPPORTED, () -> web.put(3, 0));
        row("still nothing", web, 0);
        Check.dueThrow("nobody holds it", ELEMENT, () -> web.holderOf(3));
    }

    private static void sales() {
        Document.said("A sale brings so many of the first letters of a row, of those alone that are of, or to, a person, if one is "
            + "told, to another holder, in their order.");
        LetterWeb web = heldWeb("01", "23", "12", "30", "02", "13");
        web.put(0, 0);
        row("as they were put", web, 0, 1, 2, 3, 4, 5, 0);
        Check.due("two of person 3", web.sell(0, 1, 3, 2), 2);
        row("of it, or to it", web, 1, 1, 3);
        row("the third one stays", web, 0, 2, 4, 5, 0);
        Check.due("of person 0 more than there are", web.sell(0, 1, 0, 3), 2);
        row("behind what was there", web, 1, 1, 3, 4, 0);
        Check.due("of all the first", web.sell(0, 2, -1, 1), 1);
        row("the first", web, 2, 2);
        Check.due("of all just as many", web.sell(1, 2, -1, 4), 4);
        row("in their order", web, 2, 2, 1, 3, 4, 0);
        row("none is left", web, 1);
        Check.due("none of an empty row", web.sell(1, 2, -1, 1), 0);
        Check.due("of all but one", web.sell(2, 1, -1, 4), 4);
        row("the last one stays", web, 2, 0);
        Check.due("none of a person", web.sell(2, 1, 2, 9), 0);
        row("none was sold", web, 2, 0);
        Check.due("more than any number", web.sell(1, 2, -1, Integer.MAX_VALUE), 4);
        row("all", web, 2, 0, 2, 1, 3, 4);
        row("of another holder nothing", web, 0, 5);
    }

    private static void fullRows() {
        Check.about("a row of all letters");
        LetterWeb web = heldWeb("01", "12", "20", "01", "12", "20", "01", "12", "20", "01", "12", "20");
        row("twelve", web, 0, 0, 1, 2, 3, 4, 5, 6, 7, 8, 9, 10, 11);
        Check.due("the first again", web.put(0, 0), 12);
        row("twelve again", web, 0, 1, 2, 3, 4, 5, 6, 7, 8, 9, 10, 11, 0);
        Check.due("eleven of twelve", web.sell(0, 1, -1, 11), 11);
        row("one is left", web, 0, 0);
        Check.due("the last one", web.sell(0, 1, -1, 12), 1);
        row("twelve in the other row", web, 1, 1, 2, 3, 4, 5, 6, 7, 8, 9, 10, 11, 0);
        row("none", web, 0);
        Check.due("of one person eight", web.sell(1, 2, 2, 12), 8);
        row("eight", web, 2, 1, 2, 4, 5, 7, 8, 10, 11);
        row("four", web, 1, 3, 6, 9, 0);
        Check.due("is sound", web.isSound(), true);
    }

    private static void publishesAll() {
        Document.said("Edition. To publish numbers all letters that have no number yet, lost ones too:");
        LetterWeb web = web(2, 0, "01");
        web.lost(0, 0, 1);
        web.lost(1, 1, 0);
        Check.dueThrow("no number yet", ELEMENT, () -> web.numberOf(0));
        Check.dueThrow("no number of a lost one yet", ELEMENT, () -> web.numberOf(2));
        Check.due("publish", web.publish(), 3);
        numbers("each has one", web, 100, 200, 300);
        Check.due("none is left", web.publish(), 0);
        web.lost(0, 0, 1);
        Check.dueThrow("a new one has none", ELEMENT, () -> web.numberOf(3));
        Check.due("the new one alone", web.publish(), 1);
        numbers("the others keep theirs", web, 100, 200, 300, 301);
    }

    private static void firstNumbers() {
        Document.said("as long as none has one, from 1 on, by the least day of writing, of like ones by the greatest, then by numbers;");
        LetterWeb web = web(2, 0);
        Check.due("nothing to publish", web.publish(), 0);
        web.place();
        Check.due("nothing to publish again", web.publish(), 0);
        for (int letter = 0; letter < 6; letter++) {
            add(web, "01");
        }
        web.date(0, 20, 'n', 1);
        web.date(1, 10, '?', 1);
        web.date(2, 10, 'n', 1);
        web.date(3, 9, '?', 1);
        web.date(4, 10, 'n', 1);
        web.date(5, 10, '?', 1);
        Check.due("publish", web.publish(), 6);
        numbers("still from 1 on", web, 600, 400, 200, 100, 300, 500);
    }

    private static void laterOnes() {
        Document.said("later each one, in that order, comes behind the last published letter, also of this time, whose least day of "
            + "writing is not greater, by now, in the order of numbers and parts:");
        int[] days = {99, 100, 199, 200, 201};
        int[] due = {1, 101, 101, 201, 201};
        for (int at = 0; at < days.length; at++) {
            LetterWeb web = web(2, 0, "01", "01");
            web.date(0, 100, 'n', 1);
            web.date(1, 200, 'n', 1);
            web.publish();
            add(web, "01");
            web.date(2, days[at], 'n', 1);
            web.publish();
            numbers("day " + days[at], web, 100, 200, due[at]);
        }
        LetterWeb now = web(2, 0, "01", "01");
        now.date(0, 100, 'n', 1);
        now.date(1, 200, 'n', 1);
        now.publish();
        now.undate(0);
        now.date(0, 300, 'n', 1);
        now.undate(1);
        now.date(1, 50, 'n', 1);
        now.date(add(now, "01"), 49, 'n', 1);
        now.date(add(now, "01"), 60, 'n', 1);
        now.date(add(now, "01"), 300, 'n', 1);
        Check.due("publish", now.publish(), 3);
        numbers("by now, not by then", now, 100, 200, 1, 201, 202);
        LetterWeb order = web(2, 0, "01");
        order.date(0, 100, 'n', 1);
        order.publish();
        order.date(add(order, "01"), 300, 'n', 1);
        order.date(add(order, "01"), 200, '?', 1);
        order.date(add(order, "01"), 200, 'n', 1);
        order.date(add(order, "01"), 200, 'n', 1);
        Check.due("publish", order.publish(), 4);
        numbers("by days, then by numbers", order, 100, 104, 103, 101, 102);
    }

    private static void parts() {
        Document.said("its number is that one's, with another part, 1 at first, one more than the greatest there;");
        LetterWeb web = web(2, 0, "01", "01");
        web.date(0, 100, 'n', 1);
        web.date(1, 200, 'n', 1);
        web.publish();
        int[] days = {150, 120, 250, 120};
        int[] due = {101, 102, 201, 103};
        for (int at = 0; at < days.length; at++) {
            int letter = add(web, "01");
            web.date(letter, days[at], 'n', 1);
            Check.due("publish", web.publish(), 1);
            Check.due("part of letter " + letter, web.numberOf(letter), due[at]);
        }
        numbers("all", web, 100, 200, 101, 102, 201, 103);
        LetterWeb last = web(2, 0, "01", "01", "01");
        last.date(0, 100, 'n', 1);
        last.date(1, 100, 'n', 1);
        last.date(2, 100, 'n', 1);
        last.publish();
        last.undate(1);
        last.undate(2);
        last.date(2, 50, 'n', 1);
        last.date(1, 150, 'n', 1);
        last.date(add(last, "01"), 120, 'n', 1);
        last.publish();
        numbers("the last one is that of the greatest number", last, 100, 200, 300, 301);
    }

    private static void numberZero() {
        Document.said("behind none it is 0 with such a part.");
        LetterWeb web = web(2, 0, "01");
        web.date(0, 100, 'n', 1);
        web.publish();
        int[] days = {50, 40, 99, 45};
        for (int at = 0; at < days.length; at++) {
            int letter = add(web, "01");
            web.date(letter, days[at], 'n', 1);
            web.publish();
            Check.due("letter " + letter, web.numberOf(letter), at + 1);
        }
        web.date(add(web, "01"), 39, 'n', 1);
        web.date(add(web, "01"), 38, 'n', 1);
        Check.due("two at a time", web.publish(), 2);
        numbers("all", web, 100, 1, 2, 3, 4, 6, 5);
        Check.due("is sound", web.isSound(), true);
        add(web, "01");
        Check.due("the next one", web.publish(), 1);
        Check.due("behind none, as its least day is 0", web.numberOf(7), 7);
        web.undate(0);
        add(web, "01");
        web.publish();
        Check.due("behind the first one, whose least day is 0 now", web.numberOf(8), 101);
    }

    private static void numbersStay() {
        Document.said("Numbers stay.");
        LetterWeb web = web(2, 3, "01", "10", "01");
        web.date(0, 100, 'n', 5);
        web.date(1, 200, 'n', 5);
        web.date(2, 300, 'n', 5);
        web.publish();
        numbers("at first", web, 100, 200, 300);
        web.undate(0);
        web.date(0, 900, 'n', 9);
        web.mention(1, 0);
        web.answer(2, 1);
        web.lost(2, 0, 1);
        Check.due("publish", web.publish(), 1);
        numbers("whatever is told", web, 100, 200, 300, 101);
        web.holder();
        web.put(0, 0);
        web.fact(0, 1);
        web.tell(0, 0);
        Check.due("publish again", web.publish(), 0);
        numbers("whatever else is told", web, 100, 200, 300, 101);
    }

    private static void fullEdition() {
        Check.about("an edition of all letters");
        LetterWeb first = web(2, 0, "01", "01", "01", "01", "01", "01", "01", "01", "01", "01", "01", "01");
        Check.due("publish", first.publish(), 12);
        numbers("twelve numbers", first, 100, 200, 300, 400, 500, 600, 700, 800, 900, 1000, 1100, 1200);
        LetterWeb later = web(2, 0, "01");
        later.publish();
        for (int letter = 1; letter < 12; letter++) {
            add(later, "01");
        }
        Check.due("publish later", later.publish(), 11);
        numbers("eleven parts", later, 100, 101, 102, 103, 104, 105, 106, 107, 108, 109, 110, 111);
        Check.due("is sound", later.isSound(), true);
        Check.due("none is left", later.publish(), 0);
    }

    private static void joined() {
        Document.said("Networks. Two persons are joined if a letter, not lost, is from one to the other.");
        LetterWeb web = web(3, 0, "01");
        Check.due("one is not joined", web.broker(1), 0);
        web.lost(0, 1, 2);
        Check.due("a lost letter does not join", web.broker(1), 0);
        add(web, "12");
        Check.due("a letter joins", web.broker(1), 1);
        Check.due("not the ends", web.broker(0) + web.broker(2), 0);
        LetterWeb back = web(3, 0, "10", "21");
        Check.due("whoever writes", back.broker(1), 1);
        LetterWeb both = web(3, 0, "10", "12");
        Check.due("whoever reads", both.broker(1), 1);
    }

    private static void brokers() {
        Document.said("A broker is asked for how many pairs of other persons are joined through others, but not without this one.");
        LetterWeb row = web(8, 0, "01", "12", "23", "34", "45", "56", "67");
        int[] due = {0, 6, 10, 12, 12, 10, 6, 0};
        for (int person = 0; person < 8; person++) {
            Check.due("in a row, person " + person, row.broker(person), due[person]);
        }
        add(row, "07");
        for (int person = 0; person < 8; person++) {
            Check.due("in a ring, person " + person, row.broker(person), 0);
        }
        LetterWeb star = web(8, 0, "70", "71", "72", "73", "74", "75", "76");
        Check.due("in the midst of all", star.broker(7), 21);
        Check.due("at an end", star.broker(0), 0);
        add(star, "01");
        Check.due("one pair is joined without it", star.broker(7), 20);
        star.lost(0, 2, 3);
        Check.due("a lost letter joins no pair", star.broker(7), 20);
        Check.due("without letters", web(8, 0).broker(7), 0);
        Check.due("alone", web(1, 0).broker(0), 0);
    }

    private static void silences() {
        Document.said("A silence of two persons is the greatest number of days between one day of writing and the next one, by the "
            + "least days, of letters between them that are not lost.");
        LetterWeb web = web(3, 0, "01");
        Check.dueThrow("one letter", ELEMENT, () -> web.silence(0, 1));
        web.lost(0, 1, 0);
        Check.dueThrow("one letter and a lost one", ELEMENT, () -> web.silence(0, 1));
        Check.dueThrow("none", ELEMENT, () -> web.silence(0, 2));
        Check.dueThrow("of one person", ELEMENT, () -> web.silence(0, 0));
        add(web, "10");
        Check.due("two letters of one day", web.silence(0, 1), 0);
        Check.due("the other way round", web.silence(1, 0), 0);
        web.date(0, 999, 'n', 1);
        Check.due("from the first day to the last", web.silence(0, 1), 999);
        web.date(2, 100, 'n', 1);
        web.date(1, 500, 'n', 1);
        Check.due("a lost one is no letter between", web.silence(0, 1), 899);
        add(web, "01");
        web.date(3, 500, '?', 1);
        Check.due("by the least day", web.silence(1, 0), 499);
        add(web, "02");
        add(web, "12");
        add(web, "21");
        web.date(4, 700, 'n', 1);
        Check.due("letters to another one are none between", web.silence(0, 1), 499);
        Check.due("two of the first day", web.silence(1, 2), 0);
        Check.dueThrow("one alone", ELEMENT, () -> web.silence(2, 0));
        add(web, "10");
        web.date(7, 110, 'n', 1);
        Check.due("a letter nearer leaves the greatest", web.silence(0, 1), 499);
        web.undate(7);
        web.date(7, 800, 'n', 1);
        Check.due("the greatest is ahead now", web.silence(0, 1), 400);
    }

    private static void exceptions() {
        Document.said("Exceptions. A method that throws an exception changes nothing.");
        LetterWeb web = web(2, 3, "01", "10");
        web.answer(1, 0);
        long sum = web.checksum();
        Check.dueThrow("refused", UNSUPPORTED, () -> web.cross(0, 1));
        Check.due("the sum is what it was", web.checksum(), sum);
        Check.due("no crossing is told", web.mention(1, 0), 1);
        Document.said("If several exceptions apply, the one that is documented first is thrown.");
        Check.dueThrow("no such letter, and not of these persons", INDEX, () -> web.cross(2, 2));
        Check.dueThrow("not of these persons, and no days are left", ARGUMENT, () -> web.cross(0, 0));
    }
}
