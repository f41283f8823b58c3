import java.util.ArrayList;
import java.util.List;
import java.util.Map;
import java.util.TreeMap;

/** Long runs of made-up calls, each answered by the class and by the plain model. */
public final class ModelTest {
    private static final Map<String, Integer> COUNTS = new TreeMap<>();
    private static long seed;

    private ModelTest() {
    }

    public static void main(String[] args) {
        int runs = args.length > 0 ? Integer.parseInt(args[0]) : 800;
        int from = args.length > 1 ? Integer.parseInt(args[1]) : 1;
        Map<String, Integer> answers = new TreeMap<>();
        for (int run = from; run < from + runs; run++) {
            seed = run * 7919L + 17;
            compare(run, answers);
            compareChains(run, answers);
        }
        if (args.length > 0) {
            answers.forEach((call, times) -> System.out.println(call + " " + times));
        }
        Check.end();
    }

    private static int pick(int bound) {
        seed = seed * 6364136223846793005L + 1442695040888963407L;
        return (int) ((seed >>> 33) % bound);
    }

    private static void compare(int run, Map<String, Integer> answers) {
        LetterWeb web = new LetterWeb();
        PlainModel model = new PlainModel();
        int persons = 2 + pick(4);
        int places = 1 + pick(3);
        int span = new int[] {12, 40, 200, 985}[pick(4)];
        COUNTS.clear();
        List<String> told = new ArrayList<>();
        for (int call = 0; call < 200; call++) {
            Object[] row = call < persons ? Script.row("person")
                : call < persons + places ? Script.row("place") : made(model, persons, places, span);
            String text = Script.textOf(row);
            told.add(text);
            Object want = Script.ask(model, row);
            Object got = Script.ask(web, row);
            if (!(want instanceof Class<?>)) {
                COUNTS.merge(row[0].equals("lost") ? "letter" : (String) row[0], 1, Integer::sum);
            }
            String kind = want instanceof Class<?> thrown ? " " + thrown.getSimpleName() : row[0].equals("chain") ? " " + want : "";
            answers.merge(row[0] + kind, 1, Integer::sum);
            Check.due("run " + run + " call " + told.size() + " " + text, got, want);
            if (!want.equals(got)) {
                told.forEach(line -> System.out.println("  " + line));
                return;
            }
        }
    }

    /** A run in which most letters tell one fact and letters are shown, so that chains are long. */
    private static void compareChains(int run, Map<String, Integer> answers) {
        LetterWeb web = new LetterWeb();
        PlainModel model = new PlainModel();
        int persons = 3 + pick(3);
        int letters = 5 + pick(4);
        List<Object[]> calls = new ArrayList<>();
        for (int person = 0; person < persons; person++) {
            calls.add(Script.row("person"));
        }
        calls.add(Script.row("place"));
        calls.add(Script.row("fact", 0, pick(30)));
        for (int letter = 0; letter < letters; letter++) {
            int least = pick(4);
            calls.add(Script.row("route", 0, 0, least, least + pick(8)));
            int writer = pick(persons);
            int reader = (writer + 1 + (pick(3) > 0 ? 0 : pick(persons - 1))) % persons;
            calls.add(Script.row("letter", writer, reader, 0, 0));
            if (pick(8) > 0) {
                calls.add(Script.row("tell", letter, 0));
            }
            if (pick(2) > 0) {
                calls.add(Script.row("show", letter, pick(persons)));
            }
            if (pick(2) > 0) {
                calls.add(Script.row("date", letter, pick(40), "no?".charAt(pick(3)), 1 + pick(2)));
            }
            calls.add(Script.row(new String[] {"mention", "cross", "answer", "order", "enclose"}[pick(5)], letter, pick(letter + 1)));
        }
        for (int person = 0; person < persons; person++) {
            calls.add(Script.row("knows", person, 0));
            calls.add(Script.row("chain", person, 0));
            for (int index = 0; index < 4; index++) {
                calls.add(Script.row("chainAt", person, 0, index));
            }
        }
        for (Object[] row : calls) {
            Object want = Script.ask(model, row);
            answers.merge("chains " + row[0] + (row[0].equals("chain") ? " " + want : ""), 1, Integer::sum);
            Check.due("chain run " + run + " " + Script.textOf(row), Script.ask(web, row), want);
        }
    }

    /** A number below a count, now and then one that is out of it. */
    private static int near(int count) {
        int kind = pick(40);
        return kind == 0 ? -1 : kind == 1 ? count : pick(count);
    }

    private static int letterNear() {
        return near(Math.max(1, COUNTS.getOrDefault("letter", 0)));
    }

    private static int factNear() {
        return near(Math.max(1, COUNTS.getOrDefault("fact", 0)));
    }

    private static int holderNear() {
        return near(Math.max(1, COUNTS.getOrDefault("holder", 0)));
    }

    /** A letter of the one's reader to its writer, if there is one, mostly. */
    private static int backTo(PlainModel model, int letter) {
        int count = COUNTS.getOrDefault("letter", 0);
        int start = Math.max(0, letterNear());
        for (int step = 0; step < count && letter >= 0 && letter < count && pick(20) > 0; step++) {
            int other = (start + step) % count;
            if (model.personOf(letter, true) == model.personOf(other, false)
                && model.personOf(letter, false) == model.personOf(other, true)) {
                return other;
            }
        }
        return start;
    }

    private static int day(int span) {
        int kind = pick(50);
        return kind == 0 ? -1 : kind == 1 ? 1000 : kind == 2 ? 999 : pick(span);
    }

    private static Object[] made(PlainModel model, int persons, int places, int span) {
        int kind = pick(100);
        boolean either = pick(2) == 0;
        int one = letterNear();
        if (kind < 3) {
            int least = near(12);
            return Script.row("route", near(places), near(places), least, least + near(8));
        } else if (kind < 12) {
            return Script.row("letter", near(persons), near(persons), near(places), near(places));
        } else if (kind < 16) {
            return Script.row("answer", one, backTo(model, one));
        } else if (kind < 19) {
            return Script.row("cross", one, backTo(model, one));
        } else if (kind < 21) {
            return Script.row("enclose", one, letterNear());
        } else if (kind < 24) {
            return Script.row("mention", one, letterNear());
        } else if (kind < 26) {
            return Script.row("lost", one, near(persons), near(persons));
        } else if (kind < 34) {
            return Script.row("date", one, day(span), "no??nx".charAt(pick(pick(9) == 0 ? 6 : 5)), near(4) + 1);
        } else if (kind < 36) {
            return Script.row("undate", one);
        } else if (kind < 39) {
            return Script.row("fact", near(persons), day(span) / 2);
        } else if (kind < 51) {
            return Script.row("tell", one, factNear());
        } else if (kind < 55) {
            return Script.row("show", one, near(persons));
        }
        return asked(persons, span, either);
    }

    private static Object[] asked(int persons, int span, boolean either) {
        switch (pick(26)) {
            case 0: return Script.row("price");
            case 1: return Script.row("belief", letterNear());
            case 2: return Script.row("earliest", letterNear(), either);
            case 3: return Script.row("latest", letterNear(), either);
            case 4: return Script.row("canBe", letterNear(), either, day(span + 20));
            case 5: return Script.row("order", letterNear(), letterNear());
            case 6: return Script.row("readings");
            case 7: case 8: return Script.row("knows", near(persons), factNear());
            case 9: return Script.row("chain", near(persons), factNear());
            case 10: case 11: return Script.row("chainAt", near(persons), factNear(), pick(3));
            case 12: return Script.row("priority", factNear(), near(persons), near(persons));
            case 13: return Script.row("holder");
            case 14: case 15: return Script.row("put", letterNear(), holderNear());
            case 16: return either ? Script.row("held", holderNear()) : Script.row("holderOf", letterNear());
            case 17: return Script.row("heldAt", holderNear(), near(4));
            case 18: return Script.row("sell", holderNear(), holderNear(), either ? -1 : near(persons), near(4));
            case 19: return pick(3) == 0 ? Script.row("publish") : Script.row("isLost", letterNear());
            case 20: return Script.row("numberOf", letterNear());
            case 21: return Script.row("broker", near(persons));
            case 22: return Script.row("silence", near(persons), near(persons));
            case 23: return either ? Script.row("sureShare") : Script.row("personOf", letterNear(), either);
            case 24: return either ? Script.row("meanWidth") : Script.row("isSound");
            default: return Script.row("checksum");
        }
    }
}
