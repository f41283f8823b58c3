import java.util.ArrayList;
import java.util.Arrays;
import java.util.Comparator;
import java.util.HashMap;
import java.util.List;
import java.util.Map;
import java.util.NoSuchElementException;
import java.util.Set;
import java.util.TreeSet;

/**
 * The document once more, in another way: all combinations of readings are tried, each with a whole closure of its own,
 * and all chains are told one by one. Method names are those of the class, so that both can be asked by name.
 */
public final class PlainModel {
    private static final int FAR = 1 << 20;

    private record Bond(int from, int to, int most) {
    }

    private record Dated(int day, char calendar, int price) {
    }

    private record Known(int day, List<Integer> letters) {
    }

    private static final class Note {
        int writer;
        int reader;
        boolean gone;
        int enclosedIn = -1;
        final Set<Integer> answers = new TreeSet<>();
        final Set<Integer> crosses = new TreeSet<>();
        final Set<Integer> mentions = new TreeSet<>();
        final Set<Integer> tells = new TreeSet<>();
        final Set<Integer> shown = new TreeSet<>();
        Dated dated;
        int[] number;
    }

    /** One combination of the least price: which letters' dates are believed, and the closure that it leaves. */
    private record Case(Set<Integer> believed, List<Bond> bonds, int[][] closure) {
    }

    private int persons;
    private int places;
    private final Map<Integer, int[]> routes = new HashMap<>();
    private final List<Note> notes = new ArrayList<>();
    private final List<Bond> bonds = new ArrayList<>();
    private final List<int[]> facts = new ArrayList<>();
    private final List<List<Integer>> rows = new ArrayList<>();
    private List<Case> cases;
    private int best;

    public PlainModel() {
        for (int place = 0; place < 6; place++) {
            routes.put(place * 10 + place, new int[] {0, 0});
        }
    }

    public int person() {
        if (persons == 8) {
            throw new IllegalStateException();
        }
        return persons++;
    }

    public int place() {
        if (places == 6) {
            throw new IllegalStateException();
        }
        return places++;
    }

    public int route(int from, int to, int least, int most) {
        index(from, places);
        index(to, places);
        argument(least >= 0 && most <= 99 && least <= most);
        int[] before = routes.put(from * 10 + to, new int[] {least, most});
        return before == null ? -1 : before[0];
    }

    public int letter(int writer, int reader, int from, int to) {
        index(writer, persons);
        index(reader, persons);
        index(from, places);
        index(to, places);
        argument(writer != reader);
        int[] route = routes.get(from * 10 + to);
        supported(route != null);
        if (notes.size() == 12) {
            throw new IllegalStateException();
        }
        return add(writer, reader, route[0], route[1]);
    }

    public int answer(int letter, int other) {
        index(letter, notes.size());
        index(other, notes.size());
        Note one = notes.get(letter);
        Note that = notes.get(other);
        argument(one.writer == that.reader && one.reader == that.writer && !one.answers.contains(other));
        supported(!one.gone && !that.gone);
        tell(new Bond(w(letter), a(other), 0));
        one.answers.add(other);
        return one.answers.size();
    }

    public int cross(int letter, int other) {
        index(letter, notes.size());
        index(other, notes.size());
        Note one = notes.get(letter);
        Note that = notes.get(other);
        argument(one.writer == that.reader && one.reader == that.writer);
        argument(!one.crosses.contains(other) && !that.crosses.contains(letter));
        supported(!one.gone && !that.gone);
        tell(new Bond(a(other), w(letter), -1), new Bond(a(letter), w(other), -1));
        one.crosses.add(other);
        that.crosses.add(letter);
        return one.crosses.size();
    }

    public int enclose(int letter, int other) {
        index(letter, notes.size());
        index(other, notes.size());
        argument(letter != other && notes.get(letter).enclosedIn < 0);
        supported(!notes.get(letter).gone && !notes.get(other).gone);
        tell(new Bond(w(other), w(letter), 0), new Bond(a(other), a(letter), 0), new Bond(a(letter), a(other), 0));
        notes.get(letter).enclosedIn = other;
        return (int) notes.stream().filter(note -> note.enclosedIn == other).count();
    }

    public int mention(int letter, int other) {
        index(letter, notes.size());
        index(other, notes.size());
        argument(letter != other && !notes.get(letter).mentions.contains(other));
        tell(new Bond(w(letter), w(other), 0));
        notes.get(letter).mentions.add(other);
        return notes.get(letter).mentions.size();
    }

    public int lost(int letter, int writer, int reader) {
        index(letter, notes.size());
        index(writer, persons);
        index(reader, persons);
        argument(writer != reader);
        if (notes.size() == 12) {
            throw new IllegalStateException();
        }
        int added = add(writer, reader, 0, 0);
        notes.get(added).gone = true;
        mention(letter, added);
        return added;
    }

    public boolean isLost(int letter) {
        index(letter, notes.size());
        return notes.get(letter).gone;
    }

    public int personOf(int letter, boolean isWriter) {
        index(letter, notes.size());
        return isWriter ? notes.get(letter).writer : notes.get(letter).reader;
    }

    public int date(int letter, int day, char calendar, int price) {
        index(letter, notes.size());
        argument(day >= 0 && day <= 999 && price >= 1 && price <= 9 && "no?".indexOf(calendar) >= 0);
        supported(notes.get(letter).dated == null);
        if (countDated() == 7) {
            throw new IllegalStateException();
        }
        notes.get(letter).dated = new Dated(day, calendar, price);
        cases = null;
        return countDated();
    }

    public int undate(int letter) {
        index(letter, notes.size());
        element(notes.get(letter).dated != null);
        int day = notes.get(letter).dated.day;
        notes.get(letter).dated = null;
        cases = null;
        return day;
    }

    public int price() {
        cases();
        return best;
    }

    public char belief(int letter) {
        index(letter, notes.size());
        element(notes.get(letter).dated != null);
        long times = cases().stream().filter(one -> one.believed.contains(letter)).count();
        return times == 0 ? 'n' : times == cases().size() ? 'a' : 's';
    }

    public int earliest(int letter, boolean isWriting) {
        index(letter, notes.size());
        int node = isWriting ? w(letter) : a(letter);
        return cases().stream().mapToInt(one -> -one.closure[node][0]).min().getAsInt();
    }

    public int latest(int letter, boolean isWriting) {
        index(letter, notes.size());
        int node = isWriting ? w(letter) : a(letter);
        return cases().stream().mapToInt(one -> one.closure[0][node]).max().getAsInt();
    }

    public boolean canBe(int letter, boolean isWriting, int day) {
        index(letter, notes.size());
        int node = isWriting ? w(letter) : a(letter);
        return cases().stream().anyMatch(one -> -one.closure[node][0] <= day && day <= one.closure[0][node]);
    }

    public char order(int letter, int other) {
        index(letter, notes.size());
        index(other, notes.size());
        // The greatest and the least days by which the letter comes behind the other one.
        int most = cases().stream().mapToInt(one -> one.closure[w(other)][w(letter)]).max().getAsInt();
        int least = cases().stream().mapToInt(one -> -one.closure[w(letter)][w(other)]).min().getAsInt();
        return most < 0 ? 'b' : least > 0 ? 'a' : most == 0 && least == 0 ? '=' : '?';
    }

    public int readings() {
        return cases().size();
    }

    public int fact(int person, int day) {
        index(person, persons);
        argument(day >= 0 && day <= 999);
        if (facts.size() == 5) {
            throw new IllegalStateException();
        }
        facts.add(new int[] {person, day});
        return facts.size() - 1;
    }

    public int tell(int letter, int fact) {
        index(letter, notes.size());
        index(fact, facts.size());
        supported(!notes.get(letter).gone && !notes.get(letter).tells.contains(fact));
        notes.get(letter).tells.add(fact);
        return notes.get(letter).tells.size();
    }

    public int show(int letter, int person) {
        index(letter, notes.size());
        index(person, persons);
        Note note = notes.get(letter);
        supported(!note.gone && note.writer != person && note.reader != person && !note.shown.contains(person));
        note.shown.add(person);
        return note.shown.size();
    }

    public int knows(int person, int fact) {
        return known(person, fact).day;
    }

    public int chain(int person, int fact) {
        return known(person, fact).letters.size();
    }

    public int chainAt(int person, int fact, int index) {
        List<Integer> letters = known(person, fact).letters;
        element(index >= 0 && index < letters.size());
        return letters.get(index);
    }

    public int priority(int fact, int person, int other) {
        index(fact, facts.size());
        index(person, persons);
        index(other, persons);
        Known one = find(person, fact);
        Known two = find(other, fact);
        int day = one == null ? FAR : one.day;
        int otherDay = two == null ? FAR : two.day;
        return day == otherDay ? -1 : day < otherDay ? person : other;
    }

    public int holder() {
        if (rows.size() == 5) {
            throw new IllegalStateException();
        }
        rows.add(new ArrayList<>());
        return rows.size() - 1;
    }

    public int put(int letter, int holder) {
        index(letter, notes.size());
        index(holder, rows.size());
        supported(!notes.get(letter).gone);
        rows.forEach(row -> row.remove((Integer) letter));
        rows.get(holder).add(letter);
        return rows.get(holder).size();
    }

    public int holderOf(int letter) {
        index(letter, notes.size());
        for (int holder = 0; holder < rows.size(); holder++) {
            if (rows.get(holder).contains(letter)) {
                return holder;
            }
        }
        throw new NoSuchElementException();
    }

    public int held(int holder) {
        index(holder, rows.size());
        return rows.get(holder).size();
    }

    public int heldAt(int holder, int index) {
        index(holder, rows.size());
        element(index >= 0 && index < rows.get(holder).size());
        return rows.get(holder).get(index);
    }

    public int sell(int holder, int other, int person, int most) {
        index(holder, rows.size());
        index(other, rows.size());
        if (person != -1) {
            index(person, persons);
        }
        argument(holder != other && most >= 1);
        List<Integer> sold = rows.get(holder).stream()
            .filter(l -> person == -1 || notes.get(l).writer == person || notes.get(l).reader == person)
            .limit(most).toList();
        rows.get(holder).removeAll(sold);
        rows.get(other).addAll(sold);
        return sold.size();
    }

    public int publish() {
        List<Integer> fresh = new ArrayList<>();
        List<Integer> published = new ArrayList<>();
        for (int letter = 0; letter < notes.size(); letter++) {
            (notes.get(letter).number == null ? fresh : published).add(letter);
        }
        fresh.sort(Comparator.<Integer>comparingInt(l -> earliest(l, true)).thenComparingInt(l -> latest(l, true))
            .thenComparingInt(l -> l));
        boolean first = published.isEmpty();
        int next = 1;
        for (int letter : fresh) {
            if (first) {
                notes.get(letter).number = new int[] {next++, 0};
            } else {
                notes.get(letter).number = numberBehind(letter, published);
                published.add(letter);
            }
        }
        return fresh.size();
    }

    private int[] numberBehind(int letter, List<Integer> published) {
        published.sort(Comparator.<Integer>comparingInt(l -> notes.get(l).number[0])
            .thenComparingInt(l -> notes.get(l).number[1]));
        int number = 0;
        for (int other : published) {
            if (earliest(other, true) <= earliest(letter, true)) {
                number = notes.get(other).number[0];
            }
        }
        int part = 0;
        for (int other : published) {
            if (notes.get(other).number[0] == number) {
                part = notes.get(other).number[1];
            }
        }
        return new int[] {number, part + 1};
    }

    public int numberOf(int letter) {
        index(letter, notes.size());
        element(notes.get(letter).number != null);
        return notes.get(letter).number[0] * 100 + notes.get(letter).number[1];
    }

    public int broker(int person) {
        index(person, persons);
        int pairs = 0;
        for (int one = 0; one < persons; one++) {
            for (int two = one + 1; two < persons; two++) {
                if (one != person && two != person && isJoined(one, two, -1) && !isJoined(one, two, person)) {
                    pairs++;
                }
            }
        }
        return pairs;
    }

    private boolean isJoined(int one, int two, int without) {
        List<Integer> seen = new ArrayList<>(List.of(one));
        for (int at = 0; at < seen.size(); at++) {
            for (Note note : notes) {
                if (!note.gone && note.writer != without && note.reader != without) {
                    if (note.writer == seen.get(at) && !seen.contains(note.reader)) {
                        seen.add(note.reader);
                    } else if (note.reader == seen.get(at) && !seen.contains(note.writer)) {
                        seen.add(note.writer);
                    }
                }
            }
        }
        return seen.contains(two);
    }

    public int silence(int person, int other) {
        index(person, persons);
        index(other, persons);
        List<Integer> days = new ArrayList<>();
        for (int letter = 0; letter < notes.size(); letter++) {
            Note note = notes.get(letter);
            boolean forth = note.writer == person && note.reader == other;
            boolean back = note.writer == other && note.reader == person;
            if (!note.gone && (forth || back)) {
                days.add(earliest(letter, true));
            }
        }
        element(days.size() > 1);
        days.sort(null);
        int longest = 0;
        for (int at = 1; at < days.size(); at++) {
            longest = Math.max(longest, days.get(at) - days.get(at - 1));
        }
        return longest;
    }

    public float sureShare() {
        if (countDated() == 0) {
            throw new ArithmeticException();
        }
        int sure = 0;
        for (int letter = 0; letter < notes.size(); letter++) {
            sure += notes.get(letter).dated != null && belief(letter) == 'a' ? 1 : 0;
        }
        return (float) sure / (float) countDated();
    }

    public double meanWidth() {
        if (notes.isEmpty()) {
            throw new ArithmeticException();
        }
        int sum = 0;
        for (int letter = 0; letter < notes.size(); letter++) {
            sum += latest(letter, true) - earliest(letter, true);
        }
        return (double) sum / (double) notes.size();
    }

    public long checksum() {
        long sum = 7;
        for (int letter = 0; letter < notes.size(); letter++) {
            sum = sum * 31 + earliest(letter, true);
            sum = sum * 31 + latest(letter, true);
            sum = sum * 31 + (notes.get(letter).number == null ? 0 : numberOf(letter));
        }
        return sum;
    }

    public boolean isSound() {
        return true;
    }

    private static int w(int letter) {
        return 2 * letter + 1;
    }

    private static int a(int letter) {
        return 2 * letter + 2;
    }

    private static void index(int number, int count) {
        if (number < 0 || number >= count) {
            throw new IndexOutOfBoundsException();
        }
    }

    private static void argument(boolean holds) {
        if (!holds) {
            throw new IllegalArgumentException();
        }
    }

    private static void supported(boolean holds) {
        if (!holds) {
            throw new UnsupportedOperationException();
        }
    }

    private static void element(boolean holds) {
        if (!holds) {
            throw new NoSuchElementException();
        }
    }

    private int countDated() {
        return (int) notes.stream().filter(note -> note.dated != null).count();
    }

    private int add(int writer, int reader, int least, int most) {
        int letter = notes.size();
        Note note = new Note();
        note.writer = writer;
        note.reader = reader;
        notes.add(note);
        tell(new Bond(0, w(letter), 999), new Bond(w(letter), 0, 0), new Bond(0, a(letter), 999),
            new Bond(a(letter), 0, 0), new Bond(w(letter), a(letter), most), new Bond(a(letter), w(letter), -least));
        return letter;
    }

    private void tell(Bond... more) {
        List<Bond> all = new ArrayList<>(bonds);
        all.addAll(Arrays.asList(more));
        supported(close(all) != null);
        bonds.addAll(Arrays.asList(more));
        cases = null;
    }

    /** The closure of all bonds, or null if they leave no days. */
    private int[][] close(List<Bond> all) {
        int nodes = 1 + 2 * notes.size();
        int[][] most = new int[nodes][nodes];
        for (int node = 0; node < nodes; node++) {
            Arrays.fill(most[node], FAR);
            most[node][node] = 0;
        }
        for (Bond bond : all) {
            most[bond.from][bond.to] = Math.min(most[bond.from][bond.to], bond.most);
        }
        for (int by = 0; by < nodes; by++) {
            for (int from = 0; from < nodes; from++) {
                for (int to = 0; to < nodes; to++) {
                    most[from][to] = Math.min(most[from][to], most[from][by] + most[by][to]);
                }
            }
        }
        for (int node = 0; node < nodes; node++) {
            if (most[node][node] < 0) {
                return null;
            }
        }
        return most;
    }

    private List<Case> cases() {
        if (cases == null) {
            cases = new ArrayList<>();
            best = FAR;
            tryDates(0, 0, new TreeSet<>(), new ArrayList<>(bonds));
        }
        return cases;
    }

    private void tryDates(int letter, int price, Set<Integer> believed, List<Bond> all) {
        int[][] closure = close(all);
        if (closure == null) {
            return;
        }
        if (letter == notes.size()) {
            if (price < best) {
                best = price;
                cases.clear();
            }
            if (price == best) {
                cases.add(new Case(Set.copyOf(believed), List.copyOf(all), closure));
            }
            return;
        }
        Dated dated = notes.get(letter).dated;
        if (dated == null) {
            tryDates(letter + 1, price, believed, all);
            return;
        }
        tryDates(letter + 1, price + dated.price, believed, all);
        if (dated.calendar != 'o') {
            tryReading(letter, dated.day, price, believed, all);
        }
        if (dated.calendar != 'n') {
            tryReading(letter, dated.day + 10, price, believed, all);
        }
    }

    private void tryReading(int letter, int day, int price, Set<Integer> believed, List<Bond> all) {
        Set<Integer> more = new TreeSet<>(believed);
        more.add(letter);
        List<Bond> bound = new ArrayList<>(all);
        bound.add(new Bond(0, w(letter), day));
        bound.add(new Bond(w(letter), 0, -day));
        tryDates(letter + 1, price, more, bound);
    }

    private Known known(int person, int fact) {
        index(person, persons);
        index(fact, facts.size());
        Known known = find(person, fact);
        element(known != null);
        return known;
    }

    private Known find(int person, int fact) {
        if (facts.get(fact)[0] == person) {
            return new Known(facts.get(fact)[1], List.of());
        }
        List<List<Integer>> chains = new ArrayList<>();
        tellChains(person, fact, new ArrayList<>(), chains);
        Known known = null;
        for (List<Integer> chain : chains) {
            for (Case one : cases()) {
                int day = dayOfChain(chain, facts.get(fact)[1], one);
                if (day < FAR && (known == null || isBetter(day, chain, known))) {
                    known = new Known(day, chain);
                }
            }
        }
        return known;
    }

    private static boolean isBetter(int day, List<Integer> chain, Known known) {
        if (day != known.day) {
            return day < known.day;
        }
        if (chain.size() != known.letters.size()) {
            return chain.size() < known.letters.size();
        }
        return Arrays.compare(chain.toArray(new Integer[0]), known.letters.toArray(new Integer[0])) < 0;
    }

    private void tellChains(int person, int fact, List<Integer> chain, List<List<Integer>> chains) {
        if (!chain.isEmpty()) {
            Note last = notes.get(chain.get(chain.size() - 1));
            if (last.reader == person || last.shown.contains(person)) {
                chains.add(List.copyOf(chain));
            }
        }
        if (chain.size() == 4) {
            return;
        }
        for (int letter = 0; letter < notes.size(); letter++) {
            Note note = notes.get(letter);
            if (note.tells.contains(fact) && !chain.contains(letter) && isHandedOn(chain, note, fact)) {
                chain.add(letter);
                tellChains(person, fact, chain, chains);
                chain.remove(chain.size() - 1);
            }
        }
    }

    private boolean isHandedOn(List<Integer> chain, Note note, int fact) {
        if (chain.isEmpty()) {
            return note.writer == facts.get(fact)[0];
        }
        Note last = notes.get(chain.get(chain.size() - 1));
        return last.reader == note.writer || last.shown.contains(note.writer);
    }

    private int dayOfChain(List<Integer> chain, int found, Case one) {
        List<Bond> all = new ArrayList<>(one.bonds);
        all.add(new Bond(w(chain.get(0)), 0, -found));
        for (int at = 1; at < chain.size(); at++) {
            all.add(new Bond(w(chain.get(at)), a(chain.get(at - 1)), 0));
        }
        int[][] closure = close(all);
        return closure == null ? FAR : -closure[a(chain.get(chain.size() - 1))][0];
    }
}
