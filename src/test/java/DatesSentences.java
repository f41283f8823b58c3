/** The sentences of 'Terms' on dates, each with the cases at its edges. */
final class DatesSentences extends Webs {
    private DatesSentences() {
    }

    static void all() {
        limits();
        newCalendar();
        oldCalendar();
        eitherCalendar();
        prices();
        sums();
        leastPrices();
        ranges();
        beliefs();
        orders();
        without();
    }

    private static LetterWeb eightLetters() {
        return web(2, 0, "01", "10", "01", "10", "01", "10", "01", "10");
    }

    private static void limits() {
        Document.said("Dates. At most 7 letters are dated, once each, with a day, 0 to 999, and a price, 1 to 9:");
        LetterWeb web = eightLetters();
        for (int letter = 0; letter < 7; letter++) {
            Check.due("date", web.date(letter, 100 + letter, 'n', 1 + letter), letter + 1);
            int number = letter;
            Check.dueThrow("twice", UNSUPPORTED, () -> web.date(number, 100, 'n', 1));
        }
        Check.dueThrow("an eighth", STATE, () -> web.date(7, 100, 'n', 1));
        range("the eighth is not dated", web, 7, 0, 999);
        range("the seventh is", web, 6, 106, 106);
        Check.due("one away", web.undate(0), 100);
        Check.due("another one in its place", web.date(7, 999, 'n', 9), 7);
        Check.dueThrow("again no more", STATE, () -> web.date(0, 0, 'n', 1));
        LetterWeb one = web(2, 0, "01");
        int[] days = {Integer.MIN_VALUE, -1, 0, 999, 1000, Integer.MAX_VALUE};
        int[] prices = {Integer.MIN_VALUE, -1, 0, 1, 9, 10, Integer.MAX_VALUE};
        for (char calendar : "no?".toCharArray()) {
            for (int day : days) {
                for (int price : prices) {
                    if (day >= 0 && day <= 999 && price >= 1 && price <= 9) {
                        Check.due("day " + day + ", price " + price, one.date(0, day, calendar, price), 1);
                        Check.due("the day as told", one.undate(0), day);
                    } else {
                        Check.dueThrow("day " + day + ", price " + price, ARGUMENT, () -> one.date(0, day, calendar, price));
                    }
                }
            }
        }
        Check.due("nothing is left of these", one.price(), 0);
    }

    private static void newCalendar() {
        Document.said("in the new calendar, 'n', this is the day of writing;");
        LetterWeb web = web(2, 0, "01");
        for (int day : new int[] {0, 1, 500, 998, 999}) {
            web.date(0, day, 'n', 1);
            range("new " + day, web, 0, day, day);
            Check.due("believed", web.belief(0), 'a');
            Check.due("undate", web.undate(0), day);
        }
    }

    private static void oldCalendar() {
        Document.said("in the old one, 'o', it is 10 days later;");
        LetterWeb web = web(2, 0, "01");
        for (int day : new int[] {0, 1, 500, 988, 989}) {
            web.date(0, day, 'o', 1);
            range("old " + day, web, 0, day + 10, day + 10);
            Check.due("believed", web.belief(0), 'a');
            Check.due("undate tells the day that was told", web.undate(0), day);
        }
        for (int day : new int[] {990, 991, 999}) {
            web.date(0, day, 'o', 4);
            Check.due("behind day 999", web.belief(0), 'n');
            Check.due("which costs", web.price(), 4);
            Check.due("one combination, of none", web.readings(), 1);
            range("all days are left", web, 0, 0, 999);
            web.undate(0);
        }
    }

    private static void eitherCalendar() {
        Document.said("'?' it is one of both.");
        LetterWeb web = web(2, 0, "01");
        web.date(0, 989, '?', 1);
        range("both readings", web, 0, 989, 999);
        Check.due("both readings", web.readings(), 2);
        for (int day = 988; day <= 1000; day++) {
            Check.due("day " + day, web.canBe(0, true, day), day == 989 || day == 999);
        }
        web.undate(0);
        web.date(0, 990, '?', 1);
        range("the old one is behind day 999", web, 0, 990, 990);
        Check.due("one reading", web.readings(), 1);
        Check.due("is enough to be believed", web.belief(0), 'a');
        web.undate(0);
        web.date(0, 0, '?', 1);
        range("from the first day on", web, 0, 0, 10);
        LetterWeb bound = web(2, 1, "01", "10");
        bound.date(0, 100, '?', 9);
        bound.answer(1, 0);
        bound.date(1, 110, 'n', 1);
        range("the new reading alone leaves the other date", bound, 0, 100, 100);
        bound.undate(1);
        bound.date(1, 111, 'n', 1);
        range("both readings do", bound, 0, 100, 110);
        bound.undate(1);
        bound.date(1, 100, 'n', 1);
        Check.due("neither reading does", bound.price(), 1);
        Check.due("so the dearer date stands in both readings", bound.readings(), 2);
    }

    private static void prices() {
        Document.said("A date is believed, in one of its readings, or not, which costs its price.");
        LetterWeb web = web(2, 1, "01", "10");
        web.answer(1, 0);
        web.date(0, 500, 'n', 9);
        for (int price = 1; price <= 9; price++) {
            web.date(1, 500, 'n', price);
            Check.due("not believed", web.price(), price);
            Check.due("readings", web.readings(), price == 9 ? 2 : 1);
            Check.due("the dear one", web.belief(0), price == 9 ? 's' : 'a');
            Check.due("the cheap one", web.belief(1), price == 9 ? 's' : 'n');
            web.undate(1);
        }
        web.date(1, 501, 'n', 1);
        Check.due("believed", web.price(), 0);
    }

    private static void sums() {
        Document.said("A history gives days to all letters, and a reading, or none, to each date, so that all holds; its price "
            + "is the sum of what is not believed.");
        LetterWeb web = eightLetters();
        int sum = 0;
        for (int letter = 0; letter < 7; letter++) {
            web.date(letter, 999 - letter, 'o', 9);
            sum += 9;
            Check.due("sum of " + (letter + 1), web.price(), sum);
            Check.due("one combination", web.readings(), 1);
        }
        for (int letter = 0; letter < 7; letter++) {
            Check.due("not believed", web.belief(letter), 'n');
            web.undate(letter);
            sum -= 9;
            Check.due("sum of " + (6 - letter), web.price(), sum);
        }
        LetterWeb apart = web(2, 0, "01", "10", "01");
        apart.mention(1, 0);
        apart.mention(2, 1);
        apart.date(0, 500, 'n', 5);
        apart.date(1, 400, 'n', 2);
        apart.date(2, 300, 'n', 2);
        Check.due("two cheap ones against a dear one", apart.price(), 4);
        Check.due("the dear one stands", apart.belief(0), 'a');
        apart.undate(0);
        apart.date(0, 350, 'n', 1);
        Check.due("two that fit together against one", apart.price(), 2);
        apart.undate(2);
        apart.date(2, 300, 'n', 3);
        Check.due("the one is as dear as both", apart.price(), 3);
        Check.due("two combinations", apart.readings(), 2);
        Check.due("the first one can't hold with the last", apart.belief(0), 's');
    }

    private static void leastPrices() {
        Document.said("Only histories of the least price count in all that follows.");
        LetterWeb web = eightLetters();
        for (int letter = 0; letter < 7; letter++) {
            web.date(letter, 100 * letter, '?', 1);
            Check.due("combinations", web.readings(), 1 << letter + 1);
        }
        Check.due("with all of them nothing is paid", web.price(), 0);
        range("two readings", web, 6, 600, 610);
        web.mention(0, 6);
        Check.due("the first ahead of the last", web.price(), 1);
        Check.due("either one is not believed", web.readings(), 2 * 64);
        range("with the one that is not believed", web, 6, 0, 610);
        Check.due("a day that a history of a higher price has", web.canBe(6, true, 11), false);
        Check.due("a day that one of the least has", web.canBe(6, true, 10), true);
        range("the other one", web, 0, 0, 999);
        Check.due("neither reading of the first", web.canBe(0, true, 599), false);
        Check.due("behind the last one", web.canBe(0, true, 600), true);
        web.undate(6);
        web.date(6, 600, '?', 2);
        Check.due("the cheaper one is not believed", web.readings(), 64);
        range("so the dearer one stands", web, 6, 600, 610);
        range("and the cheaper one is of any day behind", web, 0, 600, 999);
        Check.due("order by these alone", web.order(0, 5), 'a');
    }

    private static void ranges() {
        Document.said("The range of a day is from the least to the greatest that it has in any of these; the days between are had, "
            + "too, or not, as is asked of them.");
        LetterWeb web = web(2, 1);
        add(web, "01", 2, 4);
        web.date(0, 100, '?', 1);
        range("writing", web, 0, 100, 110);
        arrives("arrival", web, 0, 102, 114);
        for (int day = 95; day < 120; day++) {
            Check.due("written on " + day, web.canBe(0, true, day), day == 100 || day == 110);
            boolean isThere = day >= 102 && day <= 104 || day >= 112 && day <= 114;
            Check.due("arrived on " + day, web.canBe(0, false, day), isThere);
        }
        web.undate(0);
        web.date(0, 100, 'n', 1);
        for (int day = 95; day < 110; day++) {
            Check.due("written on " + day, web.canBe(0, true, day), day == 100);
            Check.due("arrived on " + day, web.canBe(0, false, day), day >= 102 && day <= 104);
        }
    }

    private static void beliefs() {
        Document.said("A date is sure, 'a', if it is believed in all of these, 's' if in some, 'n' if in none.");
        LetterWeb web = web(2, 1, "01", "10", "01");
        web.answer(1, 0);
        web.date(0, 500, '?', 3);
        Check.due("in all, by one reading or the other", web.belief(0), 'a');
        web.date(1, 501, 'n', 3);
        Check.due("by the new reading alone", web.belief(0), 'a');
        web.undate(1);
        web.date(1, 500, 'n', 3);
        Check.due("in some", web.belief(0), 's');
        Check.due("and the other one in the others", web.belief(1), 's');
        Check.due("two readings of the one, one of the other", web.readings(), 3);
        web.undate(1);
        web.date(1, 500, 'n', 2);
        Check.due("in all as it is dearer", web.belief(0), 'a');
        Check.due("in none as it is cheaper", web.belief(1), 'n');
        Check.dueThrow("not dated", ELEMENT, () -> web.belief(2));
    }

    private static void orders() {
        Document.said("A letter is ahead of another one, 'b', if its day of writing is the lesser in all, 'a' if the greater in all, "
            + "'=' if the same in all, '?' otherwise.");
        char[] due = {'b', 'b', '?', '?', '?', 'a', 'a'};
        int[] days = {88, 89, 90, 95, 100, 101, 102};
        for (int at = 0; at < due.length; at++) {
            LetterWeb web = web(2, 0, "01", "10");
            web.date(1, 90, '?', 1);
            web.date(0, days[at], 'n', 1);
            Check.due("day " + days[at], web.order(0, 1), due[at]);
            Check.due("the other way round", web.order(1, 0), due[at] == 'b' ? 'a' : due[at] == 'a' ? 'b' : '?');
        }
        LetterWeb web = web(2, 1);
        add(web, "01", 1, 1);
        add(web, "10", 0, 0);
        add(web, "01", 0, 0);
        web.answer(1, 0);
        Check.due("a day ahead", web.order(0, 1), 'b');
        Check.due("a day behind", web.order(1, 0), 'a');
        web.answer(2, 1);
        Check.due("on the same day, or behind it", web.order(2, 1), '?');
        Check.due("on the same day, or ahead of it", web.order(1, 2), '?');
        web.mention(1, 2);
        Check.due("on the same day", web.order(1, 2), '=');
        Check.due("on the same day, the other way round", web.order(2, 1), '=');
        for (int letter = 0; letter < 3; letter++) {
            Check.due("to itself", web.order(letter, letter), '=');
        }
        LetterWeb same = web(2, 0, "01", "10");
        same.date(0, 10, 'n', 1);
        same.date(1, 0, 'o', 1);
        Check.due("the same day by two calendars", same.order(0, 1), '=');
        same.undate(1);
        same.date(1, 0, '?', 1);
        Check.due("the same day by one reading alone", same.order(0, 1), '?');
    }

    /** Histories of objects that have no letters, or no dates. */
    private static void without() {
        Check.about("nothing dated");
        LetterWeb empty = new LetterWeb();
        Check.due("price without letters", empty.price(), 0);
        Check.due("combinations without letters", empty.readings(), 1);
        LetterWeb web = web(2, 0, "01");
        Check.due("price without dates", web.price(), 0);
        Check.due("combinations without dates", web.readings(), 1);
        web.date(0, 995, 'o', 3);
        web.undate(0);
        Check.due("price when the last date is gone", web.price(), 0);
        Check.due("combinations when the last date is gone", web.readings(), 1);
        range("all days are back", web, 0, 0, 999);
        Check.dueThrow("belief when the last date is gone", ELEMENT, () -> web.belief(0));
        Check.dueThrow("the date is taken away once", ELEMENT, () -> web.undate(0));
        Check.dueThrow("no share of no dates", ARITHMETIC, web::sureShare);
    }
}
