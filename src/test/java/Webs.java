import java.util.NoSuchElementException;

/** Small webs, and looks at several answers at once, for the tests that extend this. */
abstract class Webs {
    static final Class<IndexOutOfBoundsException> INDEX = IndexOutOfBoundsException.class;
    static final Class<IllegalArgumentException> ARGUMENT = IllegalArgumentException.class;
    static final Class<IllegalStateException> STATE = IllegalStateException.class;
    static final Class<UnsupportedOperationException> UNSUPPORTED = UnsupportedOperationException.class;
    static final Class<NoSuchElementException> ELEMENT = NoSuchElementException.class;
    static final Class<ArithmeticException> ARITHMETIC = ArithmeticException.class;
    static final int[] WRONG = {-1, 12, Integer.MIN_VALUE, Integer.MAX_VALUE};

    static LetterWeb web(int persons, int places) {
        LetterWeb web = new LetterWeb();
        for (int person = 0; person < persons; person++) {
            web.person();
        }
        for (int place = 0; place < places; place++) {
            web.place();
        }
        return web;
    }

    /** A web of one place whose letters take so many days, told by writers and readers: "01" is from 0 to 1. */
    static LetterWeb web(int persons, int days, String... pairs) {
        LetterWeb web = web(persons, 1);
        web.route(0, 0, days, days);
        for (String pair : pairs) {
            add(web, pair);
        }
        return web;
    }

    static int add(LetterWeb web, String pair) {
        return web.letter(pair.charAt(0) - '0', pair.charAt(1) - '0', 0, 0);
    }

    /** Adds a letter that takes from so many to so many days. */
    static int add(LetterWeb web, String pair, int least, int most) {
        web.route(0, 0, least, most);
        return add(web, pair);
    }

    static void range(String what, LetterWeb web, int letter, int least, int most) {
        Check.due(what + ": earliest", web.earliest(letter, true), least);
        Check.due(what + ": latest", web.latest(letter, true), most);
    }

    static void arrives(String what, LetterWeb web, int letter, int least, int most) {
        Check.due(what + ": earliest arrival", web.earliest(letter, false), least);
        Check.due(what + ": latest arrival", web.latest(letter, false), most);
    }

    static void knows(String what, LetterWeb web, int person, int fact, int day, int... letters) {
        Check.due(what + ": knows", web.knows(person, fact), day);
        Check.due(what + ": chain", web.chain(person, fact), letters.length);
        for (int index = 0; index < letters.length; index++) {
            Check.due(what + ": chainAt " + index, web.chainAt(person, fact, index), letters[index]);
        }
        Check.dueThrow(what + ": chainAt behind", ELEMENT, () -> web.chainAt(person, fact, letters.length));
        Check.dueThrow(what + ": chainAt ahead", ELEMENT, () -> web.chainAt(person, fact, -1));
    }

    static void knowsNot(String what, LetterWeb web, int person, int fact) {
        Check.dueThrow(what + ": knows", ELEMENT, () -> web.knows(person, fact));
        Check.dueThrow(what + ": chain", ELEMENT, () -> web.chain(person, fact));
        Check.dueThrow(what + ": chainAt", ELEMENT, () -> web.chainAt(person, fact, 0));
    }

    static void row(String what, LetterWeb web, int holder, int... letters) {
        Check.due(what + ": held", web.held(holder), letters.length);
        for (int index = 0; index < letters.length; index++) {
            Check.due(what + ": heldAt " + index, web.heldAt(holder, index), letters[index]);
            Check.due(what + ": holderOf", web.holderOf(letters[index]), holder);
        }
        Check.dueThrow(what + ": heldAt behind", ELEMENT, () -> web.heldAt(holder, letters.length));
        Check.dueThrow(what + ": heldAt ahead", ELEMENT, () -> web.heldAt(holder, -1));
    }

    static void numbers(String what, LetterWeb web, int... numbers) {
        for (int letter = 0; letter < numbers.length; letter++) {
            Check.due(what + ": number of " + letter, web.numberOf(letter), numbers[letter]);
        }
    }
}
