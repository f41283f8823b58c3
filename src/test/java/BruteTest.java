import java.util.Arrays;
import java.util.HashSet;
import java.util.Set;

/** Small webs of two letters, each with all of their histories counted out day by day. */
public final class BruteTest {
    private static final String CALENDARS = "-no?";
    private static long seed;

    // Of letter 0 and of letter 1: least and most days on the way, calendar ('-' for none), day and price of the date.
    private static final int[][] FACTS_OF = new int[2][5];
    // Answer 1 to 0, answer 0 to 1, cross, enclose 1 in 0, mention 0 in 1.
    private static final boolean[] TOLD = new boolean[5];

    private static int best;
    private static final boolean[][] HAD = new boolean[4][1000];
    private static final Set<String> READINGS = new HashSet<>();
    private static final boolean[] ORDERS = new boolean[3];
    private static int findDay;
    private static final int[] KNOWN = new int[2];

    private BruteTest() {
    }

    public static void main(String[] args) {
        int webs = args.length > 0 ? Integer.parseInt(args[0]) : 40;
        for (int web = 0; web < webs; web++) {
            seed = web * 104729L + 5;
            tryWeb(web);
        }
        Check.end();
    }

    private static int pick(int bound) {
        seed = seed * 6364136223846793005L + 1442695040888963407L;
        return (int) ((seed >>> 33) % bound);
    }

    private static void tryWeb(int number) {
        Script script = new Script().thenAll("person()", "person()", "place()");
        int base = new int[] {0, 400, 985}[pick(3)];
        for (int letter = 0; letter < 2; letter++) {
            int least = pick(4);
            int most = least + pick(4);
            script.then("route", 0, 0, least, most).then("letter", letter, 1 - letter, 0, 0);
            FACTS_OF[letter] = new int[] {least, most, CALENDARS.charAt(pick(4)), base + pick(15), 1 + pick(3)};
        }
        tellAll(script);
        count();
        for (int letter = 0; letter < 2; letter++) {
            if (FACTS_OF[letter][2] != '-') {
                script.then("date", letter, FACTS_OF[letter][3], (char) FACTS_OF[letter][2], FACTS_OF[letter][4]);
            }
        }
        compare("web " + number + " ", script);
    }

    private static void tellAll(Script script) {
        Arrays.fill(TOLD, false);
        Object[][] kinds = {Script.row("answer", 1, 0), Script.row("answer", 0, 1), Script.row("cross", 0, 1),
            Script.row("enclose", 1, 0), Script.row("mention", 1, 0)};
        int kind = pick(7);
        if (kind < kinds.length && Script.ask(script.made(), kinds[kind]) != UnsupportedOperationException.class) {
            script.then(kinds[kind]);
            TOLD[kind] = true;
        }
        findDay = Math.min(999, Math.max(0, FACTS_OF[0][3] - 5 + pick(10)));
        script.then("fact", 0, findDay).then("tell", 0, 0);
    }

    private static void count() {
        best = Integer.MAX_VALUE;
        int[] days = new int[4];
        for (days[0] = 0; days[0] < 1000; days[0]++) {
            for (days[1] = days[0] + FACTS_OF[0][0]; days[1] <= days[0] + FACTS_OF[0][1] && days[1] < 1000; days[1]++) {
                for (days[2] = 0; days[2] < 1000; days[2]++) {
                    for (days[3] = days[2] + FACTS_OF[1][0]; days[3] <= days[2] + FACTS_OF[1][1] && days[3] < 1000; days[3]++) {
                        if (holds(days)) {
                            take(days);
                        }
                    }
                }
            }
        }
    }

    private static boolean holds(int[] days) {
        return !(TOLD[0] && days[2] < days[1] || TOLD[1] && days[0] < days[3]
            || TOLD[2] && (days[0] >= days[3] || days[2] >= days[1])
            || TOLD[3] && (days[2] > days[0] || days[3] != days[1])
            || TOLD[4] && days[2] < days[0]);
    }

    private static char reading(int letter, int day) {
        int[] facts = FACTS_OF[letter];
        if (facts[2] != 'o' && facts[2] != '-' && day == facts[3]) {
            return 'n';
        }
        return facts[2] != 'n' && facts[2] != '-' && day == facts[3] + 10 ? 'o' : '-';
    }

    private static void take(int[] days) {
        char first = reading(0, days[0]);
        char second = reading(1, days[2]);
        int price = (first == '-' && FACTS_OF[0][2] != '-' ? FACTS_OF[0][4] : 0)
            + (second == '-' && FACTS_OF[1][2] != '-' ? FACTS_OF[1][4] : 0);
        if (price > best) {
            return;
        }
        if (price < best) {
            best = price;
            for (boolean[] had : HAD) {
                Arrays.fill(had, false);
            }
            READINGS.clear();
            Arrays.fill(ORDERS, false);
            Arrays.fill(KNOWN, Integer.MAX_VALUE);
        }
        for (int day = 0; day < 4; day++) {
            HAD[day][days[day]] = true;
        }
        READINGS.add("" + first + second);
        ORDERS[Integer.compare(days[0], days[2]) + 1] = true;
        if (days[0] >= findDay) {
            KNOWN[1] = Math.min(KNOWN[1], days[1]);
        }
    }

    private static void compare(String name, Script script) {
        LetterWeb web = script.made();
        Check.due(name + "price", web.price(), best);
        Check.due(name + "readings", web.readings(), READINGS.size());
        for (int node = 0; node < 4; node++) {
            int letter = node / 2;
            boolean isWriting = node % 2 == 0;
            int least = 0;
            while (!HAD[node][least]) {
                least++;
            }
            int most = 999;
            while (!HAD[node][most]) {
                most--;
            }
            Check.due(name + "earliest " + node, web.earliest(letter, isWriting), least);
            Check.due(name + "latest " + node, web.latest(letter, isWriting), most);
            compareDays(name, script, node);
        }
        compareRest(name, web);
    }

    private static void compareDays(String name, Script script, int node) {
        LetterWeb web = null;
        for (int day = 0; day < 1000; day++) {
            // One object is used for some 500 calls only.
            if (day % 480 == 0) {
                web = script.made();
            }
            Check.due(name + "canBe " + node + " " + day, web.canBe(node / 2, node % 2 == 0, day), HAD[node][day]);
        }
    }

    private static void compareRest(String name, LetterWeb web) {
        char order = !ORDERS[1] && !ORDERS[2] ? 'b' : !ORDERS[0] && !ORDERS[1] ? 'a' : !ORDERS[0] && !ORDERS[2] ? '=' : '?';
        Check.due(name + "order", web.order(0, 1), order);
        for (int letter = 0; letter < 2; letter++) {
            int at = letter;
            if (FACTS_OF[letter][2] != '-') {
                long believed = READINGS.stream().filter(text -> text.charAt(at) != '-').count();
                char belief = believed == 0 ? 'n' : believed == READINGS.size() ? 'a' : 's';
                Check.due(name + "belief " + letter, web.belief(letter), belief);
            }
        }
        if (KNOWN[1] == Integer.MAX_VALUE) {
            Check.dueThrow(name + "knows", java.util.NoSuchElementException.class, () -> web.knows(1, 0));
        } else {
            Check.due(name + "knows", web.knows(1, 0), KNOWN[1]);
        }
    }
}
