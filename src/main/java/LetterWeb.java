import java.util.Arrays;
import java.util.NoSuchElementException;

/** A web of letters between a learned few: who wrote to whom, when that can have been, and who could know what. */
public final class LetterWeb {
    private static final int MAX_PERSONS = 8;
    private static final int MAX_PLACES = 6;
    private static final int MAX_LETTERS = 12;
    private static final int MAX_DATES = 7;
    private static final int MAX_FACTS = 5;
    private static final int MAX_HOLDERS = 5;
    private static final int MAX_CHAIN = 4;
    private static final int LAST_DAY = 999;
    private static final int LONGEST_ROUTE = 99;
    private static final int HIGHEST_PRICE = 9;
    private static final int CALENDARS_APART = 10;
    private static final int NUMBER_STEP = 100;
    private static final int NONE = -1;

    // The days of a network: day 0 itself, then for each letter its day of writing and its day of arrival.
    private static final int DAY_ZERO = 0;
    private static final int MAX_NODES = 1 + 2 * MAX_LETTERS;
    // Above every difference of days, and so small that a sum of three stays an int.
    private static final int FAR = 1000000;

    // A date is not believed, read in the new calendar or read in the old one: three cases for each of seven dates.
    private static final int CASES = 3;
    private static final int MAX_COMBINATIONS = 2187;

    private final int[] routeLeast = new int[MAX_PLACES * MAX_PLACES];
    private final int[] routeMost = new int[MAX_PLACES * MAX_PLACES];
    private final Letter[] letters = new Letter[MAX_LETTERS];
    private final int[] finders = new int[MAX_FACTS];
    private final int[] findDays = new int[MAX_FACTS];
    private final Histories histories = new Histories();
    private final Chains chains = new Chains();
    private final Shelves shelves = new Shelves();
    private final Edition edition = new Edition();
    private int personCount;
    private int placeCount;
    private int letterCount;
    private int factCount;
    private int holderCount;

    public LetterWeb() {
        Arrays.fill(routeLeast, NONE);
        for (int place = 0; place < MAX_PLACES; place++) {
            routeLeast[place * MAX_PLACES + place] = 0;
        }
        for (int letter = 0; letter < MAX_LETTERS; letter++) {
            letters[letter] = new Letter();
        }
    }

    // ---- people, places, routes

    public int person() throws IllegalStateException {
        if (personCount >= MAX_PERSONS) {
            throw new IllegalStateException("there are 8 persons");
        }
        personCount++;
        return personCount - 1;
    }

    public int place() throws IllegalStateException {
        if (placeCount >= MAX_PLACES) {
            throw new IllegalStateException("there are 6 places");
        }
        placeCount++;
        return placeCount - 1;
    }

    public int route(int from, int to, int least, int most) throws IndexOutOfBoundsException, IllegalArgumentException {
        needPlaces(from, to);
        if (!isWithin(least, LONGEST_ROUTE) || !isWithin(most, LONGEST_ROUTE) || most < least) {
            throw new IllegalArgumentException("a route takes 0 to 99 days, at most not less than at least");
        }
        int route = from * MAX_PLACES + to;
        int before = routeLeast[route];
        routeLeast[route] = least;
        routeMost[route] = most;
        return before;
    }

    // ---- letters

    public int letter(int writer, int reader, int from, int to) throws IndexOutOfBoundsException, IllegalArgumentException, UnsupportedOperationException, IllegalStateException {
        needPersons(writer, reader);
        needPlaces(from, to);
        needUnlikePersons(writer, reader);
        int route = from * MAX_PLACES + to;
        if (routeLeast[route] < 0) {
            throw new UnsupportedOperationException("there is no route");
        }
        needRoomForLetter();
        int letter = addLetter(writer, reader, routeLeast[route], routeMost[route]);
        histories.accept();
        return letter;
    }

    public int answer(int letter, int other) throws IndexOutOfBoundsException, IllegalArgumentException, UnsupportedOperationException {
        needLetters(letter, other);
        Letter one = letters[letter];
        if (!one.isBackTo(letters[other]) || has(one.answered, other)) {
            throw new IllegalArgumentException("not of these persons, or told already");
        }
        needBothKept(letter, other);
        histories.begin();
        needDays(histories.demand(writing(letter), arrival(other), 0));
        histories.accept();
        one.answered |= 1 << other;
        return Integer.bitCount(one.answered);
    }

    public int cross(int letter, int other) throws IndexOutOfBoundsException, IllegalArgumentException, UnsupportedOperationException {
        needLetters(letter, other);
        Letter one = letters[letter];
        Letter that = letters[other];
        if (!one.isBackTo(that) || has(one.crossed, other)) {
            throw new IllegalArgumentException("not of these persons, or told already");
        }
        needBothKept(letter, other);
        histories.begin();
        needDays(histories.demand(arrival(other), writing(letter), -1));
        needDays(histories.demand(arrival(letter), writing(other), -1));
        histories.accept();
        one.crossed |= 1 << other;
        that.crossed |= 1 << letter;
        return Integer.bitCount(one.crossed);
    }

    public int enclose(int letter, int other) throws IndexOutOfBoundsException, IllegalArgumentException, UnsupportedOperationException {
        needLetters(letter, other);
        Letter that = letters[other];
        if (letter == other || letters[letter].isEnclosed) {
            throw new IllegalArgumentException("both are the same, or the letter is enclosed in one");
        }
        needBothKept(letter, other);
        histories.begin();
        needDays(histories.demand(writing(other), writing(letter), 0));
        needDays(histories.demand(arrival(other), arrival(letter), 0));
        needDays(histories.demand(arrival(letter), arrival(other), 0));
        histories.accept();
        letters[letter].isEnclosed = true;
        that.enclosing++;
        return that.enclosing;
    }

    public int mention(int letter, int other) throws IndexOutOfBoundsException, IllegalArgumentException, UnsupportedOperationException {
        needLetters(letter, other);
        if (letter == other || has(letters[letter].mentioned, other)) {
            throw new IllegalArgumentException("both are the same, or told already");
        }
        histories.begin();
        needDays(histories.demand(writing(letter), writing(other), 0));
        histories.accept();
        letters[letter].mentioned |= 1 << other;
        return Integer.bitCount(letters[letter].mentioned);
    }

    public int lost(int letter, int writer, int reader) throws IndexOutOfBoundsException, IllegalArgumentException, IllegalStateException {
        needLetter(letter);
        needPersons(writer, reader);
        needUnlikePersons(writer, reader);
        needRoomForLetter();
        int added = addLetter(writer, reader, 0, 0);
        // This always leaves days: the lost one can be of the very day of the letter that mentions it.
        histories.demand(writing(letter), writing(added), 0);
        histories.accept();
        letters[added].isGone = true;
        letters[letter].mentioned |= 1 << added;
        return added;
    }

    public boolean isLost(int letter) throws IndexOutOfBoundsException {
        needLetter(letter);
        return letters[letter].isGone;
    }

    public int personOf(int letter, boolean isWriter) throws IndexOutOfBoundsException {
        needLetter(letter);
        return isWriter ? letters[letter].writer : letters[letter].reader;
    }

    // ---- dates and ranges

    public int date(int letter, int day, char calendar, int price) throws IndexOutOfBoundsException, IllegalArgumentException, UnsupportedOperationException, IllegalStateException {
        needLetter(letter);
        if (!isWithin(day, LAST_DAY) || price < 1 || price > HIGHEST_PRICE) {
            throw new IllegalArgumentException("a day is 0 to 999, a price 1 to 9");
        }
        if (calendar != 'n' && calendar != 'o' && calendar != '?') {
            throw new IllegalArgumentException("there is no such calendar");
        }
        if (histories.isDated(letter)) {
            throw new UnsupportedOperationException("the letter is dated");
        }
        if (histories.dates() >= MAX_DATES) {
            throw new IllegalStateException("there are 7 dates");
        }
        histories.addDate(letter, day, calendar, price);
        return histories.dates();
    }

    public int undate(int letter) throws IndexOutOfBoundsException, NoSuchElementException {
        needLetter(letter);
        needDated(letter);
        return histories.dropDate(letter);
    }

    public int price() {
        return histories.leastPrice();
    }

    public char belief(int letter) throws IndexOutOfBoundsException, NoSuchElementException {
        needLetter(letter);
        needDated(letter);
        return histories.beliefIn(letter);
    }

    public int earliest(int letter, boolean isWriting) throws IndexOutOfBoundsException {
        needLetter(letter);
        return histories.least(dayOf(letter, isWriting));
    }

    public int latest(int letter, boolean isWriting) throws IndexOutOfBoundsException {
        needLetter(letter);
        return histories.greatest(dayOf(letter, isWriting));
    }

    public boolean canBe(int letter, boolean isWriting, int day) throws IndexOutOfBoundsException {
        needLetter(letter);
        return histories.isHad(dayOf(letter, isWriting), day);
    }

    public char order(int letter, int other) throws IndexOutOfBoundsException {
        needLetters(letter, other);
        return histories.orderOf(writing(letter), writing(other));
    }

    public int readings() {
        return histories.combinations();
    }

    // ---- facts

    public int fact(int person, int day) throws IndexOutOfBoundsException, IllegalArgumentException, IllegalStateException {
        needPerson(person);
        if (!isWithin(day, LAST_DAY)) {
            throw new IllegalArgumentException("a day is 0 to 999");
        }
        if (factCount >= MAX_FACTS) {
            throw new IllegalStateException("there are 5 facts");
        }
        finders[factCount] = person;
        findDays[factCount] = day;
        factCount++;
        return factCount - 1;
    }

    public int tell(int letter, int fact) throws IndexOutOfBoundsException, UnsupportedOperationException {
        needLetter(letter);
        needFact(fact);
        Letter one = letters[letter];
        if (one.isGone || has(one.told, fact)) {
            throw new UnsupportedOperationException("it was lost, or it is told already");
        }
        one.told |= 1 << fact;
        return Integer.bitCount(one.told);
    }

    public int show(int letter, int person) throws IndexOutOfBoundsException, UnsupportedOperationException {
        needLetter(letter);
        needPerson(person);
        Letter one = letters[letter];
        if (one.isGone || one.writer == person || one.isSeenBy(person)) {
            throw new UnsupportedOperationException("it was lost, or this one knows it");
        }
        one.shown |= 1 << person;
        return Integer.bitCount(one.shown);
    }

    public int knows(int person, int fact) throws IndexOutOfBoundsException, NoSuchElementException {
        needChain(person, fact);
        return chains.bestDay;
    }

    public int chain(int person, int fact) throws IndexOutOfBoundsException, NoSuchElementException {
        needChain(person, fact);
        return chains.bestLength;
    }

    public int chainAt(int person, int fact, int index) throws IndexOutOfBoundsException, NoSuchElementException {
        needChain(person, fact);
        if (index < 0 || index >= chains.bestLength || index >= MAX_CHAIN) {
            throw new NoSuchElementException("there is no such letter in the chain");
        }
        return chains.best[index];
    }

    public int priority(int fact, int person, int other) throws IndexOutOfBoundsException {
        needFact(fact);
        needPersons(person, other);
        chains.find(letters, histories, fact, finders[fact], findDays[fact], person);
        int day = chains.bestDay;
        chains.find(letters, histories, fact, finders[fact], findDays[fact], other);
        if (day == chains.bestDay) {
            return NONE;
        }
        return day < chains.bestDay ? person : other;
    }

    // ---- holders

    public int holder() throws IllegalStateException {
        if (holderCount >= MAX_HOLDERS) {
            throw new IllegalStateException("there are 5 holders");
        }
        holderCount++;
        return holderCount - 1;
    }

    public int put(int letter, int holder) throws IndexOutOfBoundsException, UnsupportedOperationException {
        needLetter(letter);
        needHolder(holder);
        if (letters[letter].isGone) {
            throw new UnsupportedOperationException("the letter was lost");
        }
        shelves.move(letter, holder);
        return shelves.size(holder);
    }

    public int holderOf(int letter) throws IndexOutOfBoundsException, NoSuchElementException {
        needLetter(letter);
        int holder = shelves.shelfOf(letter);
        if (holder < 0) {
            throw new NoSuchElementException("nobody holds the letter");
        }
        return holder;
    }

    public int held(int holder) throws IndexOutOfBoundsException {
        needHolder(holder);
        return shelves.size(holder);
    }

    public int heldAt(int holder, int index) throws IndexOutOfBoundsException, NoSuchElementException {
        needHolder(holder);
        if (index < 0 || index >= shelves.size(holder)) {
            throw new NoSuchElementException("the holder has no such letter");
        }
        return shelves.letterAt(holder, index);
    }

    public int sell(int holder, int other, int person, int most) throws IndexOutOfBoundsException, IllegalArgumentException {
        needHolder(holder);
        needHolder(other);
        if (person != NONE) {
            needPerson(person);
        }
        if (holder == other || most < 1) {
            throw new IllegalArgumentException("both holders are the same, or the number is below 1");
        }
        int count = shelves.size(holder);
        int sold = 0;
        for (int step = 0; step < count && sold < most; step++) {
            // Each letter that was sold has left the row, so those behind it stand so much nearer.
            int letter = shelves.letterAt(holder, step - sold);
            if (isOfOrTo(letter, person)) {
                shelves.move(letter, other);
                sold++;
            }
        }
        return sold;
    }

    // ---- edition and networks

    public int publish() {
        return edition.numberAll(histories, letterCount);
    }

    public int numberOf(int letter) throws IndexOutOfBoundsException, NoSuchElementException {
        needLetter(letter);
        int number = edition.number(letter);
        if (number == 0) {
            throw new NoSuchElementException("the letter has no number");
        }
        return number;
    }

    public int broker(int person) throws IndexOutOfBoundsException {
        needPerson(person);
        int pairs = 0;
        for (int one = 0; one < personCount; one++) {
            if (one != person) {
                // This person itself stands in no pair, and a pair counts once: those behind one are left.
                int others = reach(one, NONE) & ~reach(one, person) & ~(1 << person);
                pairs += Integer.bitCount(others >> one + 1);
            }
        }
        return pairs;
    }

    public int silence(int person, int other) throws IndexOutOfBoundsException, NoSuchElementException {
        needPersons(person, other);
        int count = 0;
        int longest = 0;
        for (int letter = 0; letter < letterCount; letter++) {
            if (isKeptBetween(letter, person, other)) {
                count++;
                longest = Math.max(longest, silenceAfter(letter, person, other));
            }
        }
        if (count < 2) {
            throw new NoSuchElementException("there are fewer than two letters between them");
        }
        return longest;
    }

    // ---- figures

    public float sureShare() throws ArithmeticException {
        int dates = histories.dates();
        if (dates == 0) {
            throw new ArithmeticException("no letter is dated");
        }
        int sure = 0;
        for (int letter = 0; letter < letterCount; letter++) {
            if (histories.isDated(letter) && histories.beliefIn(letter) == 'a') {
                sure++;
            }
        }
        return (float) sure / (float) dates;
    }

    public double meanWidth() throws ArithmeticException {
        if (letterCount == 0) {
            throw new ArithmeticException("there are no letters");
        }
        int sum = 0;
        for (int letter = 0; letter < letterCount; letter++) {
            sum += histories.greatest(writing(letter)) - histories.least(writing(letter));
        }
        return (double) sum / (double) letterCount;
    }

    public long checksum() {
        long sum = 7;
        for (int letter = 0; letter < letterCount; letter++) {
            sum = 31 * sum + histories.least(writing(letter));
            sum = 31 * sum + histories.greatest(writing(letter));
            sum = 31 * sum + edition.number(letter);
        }
        return sum;
    }

    public boolean isSound() {
        for (int letter = 0; letter < letterCount; letter++) {
            if (!histories.areEndsHad(writing(letter)) || !histories.areEndsHad(arrival(letter))) {
                return false;
            }
            if (shelves.copies(letter) > 1 || !edition.isUnlikeOthers(letter)) {
                return false;
            }
        }
        return true;
    }

    // ---- what the calls share

    private static int writing(int letter) {
        return 1 + 2 * letter;
    }

    private static int arrival(int letter) {
        return 2 + 2 * letter;
    }

    private static int dayOf(int letter, boolean isWriting) {
        return isWriting ? writing(letter) : arrival(letter);
    }

    private static boolean isWithin(int value, int most) {
        return value >= 0 && value <= most;
    }

    private static boolean has(int mask, int bit) {
        return (mask >> bit & 1) != 0;
    }

    private void needPerson(int person) {
        if (person < 0 || person >= personCount) {
            throw new IndexOutOfBoundsException("there is no such person");
        }
    }

    private void needPersons(int person, int other) {
        needPerson(person);
        needPerson(other);
    }

    private void needUnlikePersons(int person, int other) {
        if (person == other) {
            throw new IllegalArgumentException("both persons are the same");
        }
    }

    private void needPlaces(int from, int to) {
        if (from < 0 || from >= placeCount || to < 0 || to >= placeCount) {
            throw new IndexOutOfBoundsException("there is no such place");
        }
    }

    private void needLetter(int letter) {
        if (letter < 0 || letter >= letterCount) {
            throw new IndexOutOfBoundsException("there is no such letter");
        }
    }

    private void needLetters(int letter, int other) {
        needLetter(letter);
        needLetter(other);
    }

    private void needFact(int fact) {
        if (fact < 0 || fact >= factCount) {
            throw new IndexOutOfBoundsException("there is no such fact");
        }
    }

    private void needHolder(int holder) {
        if (holder < 0 || holder >= holderCount) {
            throw new IndexOutOfBoundsException("there is no such holder");
        }
    }

    private void needRoomForLetter() {
        if (letterCount >= MAX_LETTERS) {
            throw new IllegalStateException("there are 12 letters");
        }
    }

    private void needBothKept(int letter, int other) {
        if (letters[letter].isGone || letters[other].isGone) {
            throw new UnsupportedOperationException("one of the letters was lost");
        }
    }

    private void needDays(boolean areLeft) {
        if (!areLeft) {
            throw new UnsupportedOperationException("this leaves no days at all");
        }
    }

    private void needDated(int letter) {
        if (!histories.isDated(letter)) {
            throw new NoSuchElementException("the letter is not dated");
        }
    }

    private void needChain(int person, int fact) {
        needPerson(person);
        needFact(fact);
        chains.find(letters, histories, fact, finders[fact], findDays[fact], person);
        if (chains.bestLength < 0) {
            throw new NoSuchElementException("there is no chain");
        }
    }

    private int addLetter(int writer, int reader, int least, int most) {
        letters[letterCount].writer = writer;
        letters[letterCount].reader = reader;
        histories.addLetter(least, most);
        letterCount++;
        return letterCount - 1;
    }

    /** Whether a letter is of or to a person; NONE is everybody. */
    private boolean isOfOrTo(int letter, int person) {
        if (!isWithin(letter, letterCount - 1)) {
            return false;
        }
        return person == NONE || letters[letter].writer == person || letters[letter].reader == person;
    }

    private boolean isKeptBetween(int letter, int person, int other) {
        return person != other && !letters[letter].isGone && isOfOrTo(letter, person) && isOfOrTo(letter, other);
    }

    private int silenceAfter(int letter, int person, int other) {
        int day = histories.least(writing(letter));
        int next = FAR;
        for (int later = 0; later < letterCount; later++) {
            int laterDay = histories.least(writing(later));
            if (laterDay > day && isKeptBetween(later, person, other)) {
                next = Math.min(next, laterDay);
            }
        }
        return next == FAR ? 0 : next - day;
    }

    /** The persons whom one is joined to through others, without the barred one. */
    private int reach(int person, int barred) {
        int reached = 1 << person;
        // Each round reaches one more person or ends the search.
        for (int round = 0; round < MAX_PERSONS; round++) {
            for (int letter = 0; letter < letterCount; letter++) {
                Letter one = letters[letter];
                boolean isOpen = !one.isGone && one.writer != barred && one.reader != barred;
                if (isOpen && (has(reached, one.writer) || has(reached, one.reader))) {
                    reached |= 1 << one.writer | 1 << one.reader;
                }
            }
        }
        return reached;
    }

    /** What is told of one letter; sets of letters, facts and persons are masks of bits. */
    private static final class Letter {
        private int writer;
        private int reader;
        private boolean isGone;
        private boolean isEnclosed;
        private int enclosing;
        private int answered;
        private int crossed;
        private int mentioned;
        private int told;
        private int shown;

        private boolean isBackTo(Letter other) {
            return writer == other.reader && reader == other.writer;
        }

        private boolean isSeenBy(int person) {
            return reader == person || has(shown, person);
        }
    }

    /** How far apart the days can be by all that is told of letters, dates aside. */
    private static final class Network {
        // Always closed: no way through other days binds two days closer than their own entry.
        private final int[] kept = new int[MAX_NODES * MAX_NODES];
        private final int[] trial = new int[MAX_NODES * MAX_NODES];
        private int nodes = 1;

        private Network() {
            Arrays.fill(kept, FAR);
            for (int node = 0; node < MAX_NODES; node++) {
                kept[node * MAX_NODES + node] = 0;
            }
        }

        /** The most by which a day can come behind another one; below 0 if it must come ahead of that. */
        private int most(int from, int to) {
            int index = from * MAX_NODES + to;
            return index >= 0 && index < kept.length ? kept[index] : FAR;
        }

        private void copyKept(int[] to) {
            System.arraycopy(kept, 0, to, 0, Math.min(kept.length, to.length));
        }

        private void begin() {
            copyKept(trial);
        }

        private void keep() {
            System.arraycopy(trial, 0, kept, 0, kept.length);
        }

        private void addDays() {
            if (nodes + 2 <= MAX_NODES) {
                nodes += 2;
            }
        }

        /** Asks in the trial that a day comes at most so far behind another one; returns whether that leaves days. */
        private boolean demand(int from, int to, int most) {
            if (!isWithin(from, nodes - 1) || !isWithin(to, nodes - 1)) {
                return false;
            }
            if (trial[to * MAX_NODES + from] + most < 0) {
                return false;
            }
            if (trial[from * MAX_NODES + to] > most) {
                tighten(from, to, most);
            }
            return true;
        }

        private void tighten(int from, int to, int most) {
            for (int first = 0; first < nodes; first++) {
                int head = trial[first * MAX_NODES + from] + most;
                for (int last = 0; last < nodes; last++) {
                    int way = head + trial[to * MAX_NODES + last];
                    if (way < trial[first * MAX_NODES + last]) {
                        trial[first * MAX_NODES + last] = way;
                    }
                }
            }
        }
    }

    /** The dates, and the combinations of their readings that histories of the least price have. */
    private static final class Histories {
        private final Network network = new Network();
        private int letterCount;

        private final int[] days = new int[MAX_LETTERS];
        private final char[] calendars = new char[MAX_LETTERS];
        // 0 for a letter that is not dated.
        private final int[] prices = new int[MAX_LETTERS];
        private final int[] dated = new int[MAX_DATES];
        private int dateCount;

        // For each date the day of writing that it is read as, or NONE.
        private final int[] chosen = new int[MAX_DATES];
        // Found combinations: one digit of base CASES a date, the first date's the highest.
        private final int[] codes = new int[MAX_COMBINATIONS];
        // Without letters there is one combination, of no reading, that costs nothing.
        private int found = 1;
        private int foundPrice;

        private final int[] lowest = new int[MAX_NODES];
        private final int[] highest = new int[MAX_NODES];
        private final int[] believed = new int[MAX_LETTERS];

        private void begin() {
            network.begin();
        }

        private boolean demand(int from, int to, int most) {
            return network.demand(from, to, most);
        }

        private void accept() {
            network.keep();
            refresh();
        }

        /** Begins a trial with one letter more. */
        private void addLetter(int least, int most) {
            int letter = letterCount;
            letterCount++;
            network.addDays();
            network.begin();
            network.demand(DAY_ZERO, writing(letter), LAST_DAY);
            network.demand(writing(letter), DAY_ZERO, 0);
            network.demand(DAY_ZERO, arrival(letter), LAST_DAY);
            network.demand(arrival(letter), DAY_ZERO, 0);
            network.demand(writing(letter), arrival(letter), most);
            network.demand(arrival(letter), writing(letter), -least);
        }

        private boolean isDated(int letter) {
            return isWithin(letter, MAX_LETTERS - 1) && prices[letter] > 0;
        }

        private int dates() {
            return dateCount;
        }

        private void addDate(int letter, int day, char calendar, int price) {
            if (!isWithin(letter, MAX_LETTERS - 1) || dateCount >= MAX_DATES) {
                return;
            }
            days[letter] = day;
            calendars[letter] = calendar;
            prices[letter] = price;
            dated[dateCount] = letter;
            dateCount++;
            refresh();
        }

        private int dropDate(int letter) {
            int left = 0;
            for (int index = 0; index < dateCount && index < MAX_DATES; index++) {
                if (dated[index] != letter) {
                    dated[left] = dated[index];
                    left++;
                }
            }
            dateCount = left;
            prices[letter] = 0;
            refresh();
            return days[letter];
        }

        private int leastPrice() {
            return foundPrice;
        }

        private int combinations() {
            return found;
        }

        private char beliefIn(int letter) {
            int times = isWithin(letter, MAX_LETTERS - 1) ? believed[letter] : 0;
            if (times == 0) {
                return 'n';
            }
            return times == found ? 'a' : 's';
        }

        private int least(int node) {
            return isWithin(node, MAX_NODES - 1) ? lowest[node] : 0;
        }

        private int greatest(int node) {
            return isWithin(node, MAX_NODES - 1) ? highest[node] : LAST_DAY;
        }

        private boolean isHad(int node, int day) {
            for (int index = 0; index < found; index++) {
                open(index);
                if (day >= low(node) && day <= high(node)) {
                    return true;
                }
            }
            return false;
        }

        private char orderOf(int node, int other) {
            int mostBehind = -FAR;
            int mostAhead = -FAR;
            for (int index = 0; index < found; index++) {
                open(index);
                mostBehind = Math.max(mostBehind, mostApart(other, node));
                mostAhead = Math.max(mostAhead, mostApart(node, other));
            }
            if (mostBehind < 0) {
                return 'b';
            }
            if (mostAhead < 0) {
                return 'a';
            }
            return mostBehind == 0 && mostAhead == 0 ? '=' : '?';
        }

        private int mostApart(int from, int to) {
            return Math.min(network.most(from, to), high(to) - low(from));
        }

        private boolean areEndsHad(int node) {
            for (int index = 0; index < found; index++) {
                open(index);
                if (low(node) < least(node) || high(node) > greatest(node)) {
                    return false;
                }
            }
            return isHad(node, least(node)) && isHad(node, greatest(node));
        }

        /** Finds the combinations anew, so that all that is asked until the next change can be read. */
        private void refresh() {
            found = 0;
            foundPrice = FAR;
            search(0, 0, 0);
            Arrays.fill(lowest, FAR);
            Arrays.fill(highest, NONE);
            Arrays.fill(believed, 0);
            for (int index = 0; index < found; index++) {
                open(index);
                gather();
            }
        }

        private void gather() {
            for (int node = 1; node <= 2 * letterCount && node < MAX_NODES; node++) {
                lowest[node] = Math.min(lowest[node], low(node));
                highest[node] = Math.max(highest[node], high(node));
            }
            for (int date = 0; date < dateCount && date < MAX_DATES; date++) {
                if (chosen[date] != NONE) {
                    believed[letterOf(date)]++;
                }
            }
        }

        /** Reads the dates from one on; belief is tried first, so that dear combinations are soon left. */
        private void search(int date, int price, int code) {
            if (price > foundPrice) {
                return;
            }
            if (date >= dateCount || date >= MAX_DATES) {
                record(price, code);
                return;
            }
            for (int reading = CASES - 1; reading >= 0; reading--) {
                tryReading(date, reading, price, code * CASES + reading);
            }
        }

        private void tryReading(int date, int reading, int price, int code) {
            int letter = letterOf(date);
            if (reading == 0) {
                chosen[date] = NONE;
                search(date + 1, price + prices[letter], code);
                return;
            }
            int day = dayRead(letter, reading);
            if (isReading(letter, reading) && isPossible(date, day)) {
                chosen[date] = day;
                search(date + 1, price, code);
            }
        }

        private void record(int price, int code) {
            if (price < foundPrice) {
                foundPrice = price;
                found = 0;
            }
            if (found < MAX_COMBINATIONS) {
                codes[found] = code;
                found++;
            }
        }

        /** The letter of a date; what is no letter's number is taken for 0, so that it can be an index. */
        private int letterOf(int date) {
            int letter = isWithin(date, MAX_DATES - 1) ? dated[date] : 0;
            return isWithin(letter, MAX_LETTERS - 1) ? letter : 0;
        }

        private boolean isReading(int letter, int reading) {
            return calendars[letter] == '?' || calendars[letter] == (reading == 1 ? 'n' : 'o');
        }

        private int dayRead(int letter, int reading) {
            return reading == 1 ? days[letter] : days[letter] + CALENDARS_APART;
        }

        /** Days of a closed network that fit in pairs fit together, so pairs are all that is looked at. */
        private boolean isPossible(int date, int day) {
            int node = writing(letterOf(date));
            if (day > network.most(DAY_ZERO, node) || -day > network.most(node, DAY_ZERO)) {
                return false;
            }
            for (int before = 0; before < date; before++) {
                int other = writing(letterOf(before));
                int apart = day - chosen[before];
                if (chosen[before] != NONE && (apart > network.most(other, node) || -apart > network.most(node, other))) {
                    return false;
                }
            }
            return true;
        }

        private void copyMost(int[] most) {
            network.copyKept(most);
        }

        private void copyEnds(int[] lows, int[] highs) {
            for (int node = 1; node <= 2 * letterCount && node < lows.length && node < highs.length; node++) {
                lows[node] = low(node);
                highs[node] = high(node);
            }
        }

        /** Chooses the readings of a found combination, for low(), high() and mostApart(). */
        private void open(int index) {
            int rest = index >= 0 && index < found ? codes[index] : 0;
            for (int date = Math.min(dateCount, MAX_DATES) - 1; date >= 0; date--) {
                int reading = rest % CASES;
                chosen[date] = reading == 0 ? NONE : dayRead(letterOf(date), reading);
                rest = rest / CASES;
            }
        }

        private int low(int node) {
            int day = -network.most(node, DAY_ZERO);
            for (int date = 0; date < dateCount && date < MAX_DATES; date++) {
                if (chosen[date] != NONE) {
                    day = Math.max(day, chosen[date] - network.most(node, writing(letterOf(date))));
                }
            }
            return day;
        }

        private int high(int node) {
            int day = network.most(DAY_ZERO, node);
            for (int date = 0; date < dateCount && date < MAX_DATES; date++) {
                if (chosen[date] != NONE) {
                    day = Math.min(day, chosen[date] + network.most(writing(letterOf(date)), node));
                }
            }
            return day;
        }
    }

    /** Looks for the chain by which a person can know a fact first. */
    private static final class Chains {
        private int fact;
        private int finder;
        private int findDay;
        private int person;

        // The least and the greatest days of the combination that is looked at, and how far apart days can be.
        private final int[] lows = new int[MAX_NODES];
        private final int[] highs = new int[MAX_NODES];
        private final int[] most = new int[MAX_NODES * MAX_NODES];

        private final int[] row = new int[MAX_CHAIN];
        // The nodes of the row's letters, writing and arrival by turns, and the least days that they can have together.
        private final int[] nodes = new int[2 * MAX_CHAIN];
        private final int[] days = new int[2 * MAX_CHAIN];

        private final int[] best = new int[MAX_CHAIN];
        private int bestLength = NONE;
        private int bestDay = FAR;

        /** Leaves bestLength NONE and bestDay FAR if there is no chain. */
        private void find(Letter[] letters, Histories histories, int theFact, int theFinder, int day, int thePerson) {
            fact = theFact;
            finder = theFinder;
            findDay = day;
            person = thePerson;
            bestLength = NONE;
            bestDay = FAR;
            if (person == finder) {
                bestLength = 0;
                bestDay = findDay;
                return;
            }
            int combinations = histories.combinations();
            histories.copyMost(most);
            for (int index = 0; index < combinations; index++) {
                histories.open(index);
                histories.copyEnds(lows, highs);
                extend(letters, 0);
            }
        }

        private void extend(Letter[] letters, int length) {
            if (length >= MAX_CHAIN) {
                return;
            }
            for (int letter = 0; letter < letters.length; letter++) {
                if (isNext(letters, length, letter)) {
                    row[length] = letter;
                    nodes[2 * length] = writing(letter);
                    nodes[2 * length + 1] = arrival(letter);
                    follow(letters, length + 1);
                }
            }
        }

        private boolean isNext(Letter[] letters, int length, int letter) {
            if (!has(letters[letter].told, fact)) {
                return false;
            }
            for (int index = 0; index < length; index++) {
                if (row[index] == letter) {
                    return false;
                }
            }
            int writer = letters[letter].writer;
            return length == 0 ? writer == finder : isLastSeenBy(letters, length, writer);
        }

        private boolean isLastSeenBy(Letter[] letters, int length, int reader) {
            int letter = isWithin(length - 1, MAX_CHAIN - 1) ? row[length - 1] : NONE;
            return isWithin(letter, letters.length - 1) && letters[letter].isSeenBy(reader);
        }

        private void follow(Letter[] letters, int length) {
            if (!settle(2 * length)) {
                return;
            }
            int day = days[2 * length - 1];
            // A longer chain ends no earlier, so one that is behind the best already can't come to be best.
            if (day > bestDay || day == bestDay && length > bestLength) {
                return;
            }
            if (!isLastSeenBy(letters, length, person)) {
                extend(letters, length);
            } else if (isBetter(length, day)) {
                System.arraycopy(row, 0, best, 0, length);
                bestLength = length;
                bestDay = day;
            }
        }

        /** Whether the row is better than the best one, if its day is no later and, on the same day, it is no longer. */
        private boolean isBetter(int length, int day) {
            if (day != bestDay || length != bestLength) {
                return true;
            }
            for (int index = 0; index < length; index++) {
                if (row[index] != best[index]) {
                    return row[index] < best[index];
                }
            }
            return false;
        }

        /** Finds the least days that the row's letters can have together; returns whether there are any. */
        private boolean settle(int count) {
            for (int index = 0; index < count; index++) {
                days[index] = lows[nodeAt(index)];
            }
            days[0] = Math.max(days[0], findDay);
            boolean isMoved = true;
            // Days that still move when each can have moved each other one would move for ever.
            for (int round = 0; isMoved && round <= count; round++) {
                isMoved = raise(count);
            }
            return !isMoved && areLow(count);
        }

        private boolean raise(int count) {
            boolean isMoved = false;
            for (int to = 0; to < count; to++) {
                int least = days[to];
                for (int from = 0; from < count; from++) {
                    least = Math.max(least, days[from] - most[nodeAt(to) * MAX_NODES + nodeAt(from)]);
                }
                // A letter that hands the fact on is written when the one ahead of it has arrived.
                if (to > 0 && to % 2 == 0) {
                    least = Math.max(least, days[to - 1]);
                }
                if (least > days[to]) {
                    days[to] = least;
                    isMoved = true;
                }
            }
            return isMoved;
        }

        private int nodeAt(int index) {
            int node = index >= 0 && index < nodes.length ? nodes[index] : DAY_ZERO;
            return node >= 0 && node < MAX_NODES ? node : DAY_ZERO;
        }

        private boolean areLow(int count) {
            for (int index = 0; index < count; index++) {
                if (days[index] > highs[nodeAt(index)]) {
                    return false;
                }
            }
            return true;
        }
    }

    /** The rows of letters that the holders have. */
    private static final class Shelves {
        private final int[] rows = new int[MAX_HOLDERS * MAX_LETTERS];
        private final int[] sizes = new int[MAX_HOLDERS];

        private int size(int holder) {
            return isWithin(holder, MAX_HOLDERS - 1) ? sizes[holder] : 0;
        }

        private int letterAt(int holder, int index) {
            return isWithin(index, size(holder) - 1) ? rows[holder * MAX_LETTERS + index] : NONE;
        }

        private int copies(int letter) {
            int copies = 0;
            for (int holder = 0; holder < MAX_HOLDERS; holder++) {
                for (int index = 0; index < size(holder); index++) {
                    if (letterAt(holder, index) == letter) {
                        copies++;
                    }
                }
            }
            return copies;
        }

        private int shelfOf(int letter) {
            for (int holder = 0; holder < MAX_HOLDERS; holder++) {
                for (int index = 0; index < size(holder); index++) {
                    if (letterAt(holder, index) == letter) {
                        return holder;
                    }
                }
            }
            return NONE;
        }

        /** Puts a letter behind all others of a row, out of the row where it was. */
        private void move(int letter, int holder) {
            int before = shelfOf(letter);
            if (before >= 0) {
                takeOut(letter, before);
            }
            if (size(holder) < MAX_LETTERS && isWithin(holder, MAX_HOLDERS - 1)) {
                rows[holder * MAX_LETTERS + sizes[holder]] = letter;
                sizes[holder]++;
            }
        }

        private void takeOut(int letter, int holder) {
            int left = 0;
            for (int index = 0; index < size(holder); index++) {
                int other = letterAt(holder, index);
                if (other != letter) {
                    rows[holder * MAX_LETTERS + left] = other;
                    left++;
                }
            }
            sizes[holder] = left;
        }
    }

    /** The numbers that letters have in the edition. */
    private static final class Edition {
        // NUMBER_STEP times the number, and its part; 0 for none, as number 0 always has a part.
        private final int[] numbers = new int[MAX_LETTERS];

        private int number(int letter) {
            return isWithin(letter, MAX_LETTERS - 1) ? numbers[letter] : 0;
        }

        private boolean isUnlikeOthers(int letter) {
            for (int other = 0; other < MAX_LETTERS; other++) {
                if (other != letter && number(other) != 0 && number(other) == number(letter)) {
                    return false;
                }
            }
            return true;
        }

        private int numberAll(Histories histories, int count) {
            boolean isFirst = !isBegun();
            int given = 0;
            for (int turn = 0; turn < count; turn++) {
                int letter = nextUnnumbered(histories, count);
                if (isWithin(letter, MAX_LETTERS - 1)) {
                    given++;
                    numbers[letter] = isFirst ? NUMBER_STEP * given : numberBehind(histories, letter, count);
                }
            }
            return given;
        }

        private boolean isBegun() {
            for (int letter = 0; letter < MAX_LETTERS; letter++) {
                if (numbers[letter] != 0) {
                    return true;
                }
            }
            return false;
        }

        private int nextUnnumbered(Histories histories, int count) {
            int next = NONE;
            for (int letter = 0; letter < count; letter++) {
                if (number(letter) == 0 && (next == NONE || isAhead(histories, letter, next))) {
                    next = letter;
                }
            }
            return next;
        }

        private boolean isAhead(Histories histories, int letter, int other) {
            int least = histories.least(writing(letter));
            int otherLeast = histories.least(writing(other));
            if (least != otherLeast) {
                return least < otherLeast;
            }
            return histories.greatest(writing(letter)) < histories.greatest(writing(other));
        }

        private int numberBehind(Histories histories, int letter, int count) {
            int last = 0;
            for (int other = 0; other < count; other++) {
                if (histories.least(writing(other)) <= histories.least(writing(letter))) {
                    last = Math.max(last, number(other));
                }
            }
            int whole = last / NUMBER_STEP;
            int part = 0;
            for (int other = 0; other < count; other++) {
                if (number(other) / NUMBER_STEP == whole) {
                    part = Math.max(part, number(other) % NUMBER_STEP);
                }
            }
            return whole * NUMBER_STEP + part + 1;
        }
    }
}
