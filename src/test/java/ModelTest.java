import java.lang.reflect.InvocationTargetException;
import java.lang.reflect.Method;
import java.util.ArrayList;
import java.util.List;
import java.util.Map;
import java.util.TreeMap;

/** Long runs of made-up calls, each answered by the class and by the plain model. */
public final class ModelTest {
    private static long seed;

    private ModelTest() {
    }

    public static void main(String[] args) throws Exception {
        int runs = args.length > 0 ? Integer.parseInt(args[0]) : 400;
        int from = args.length > 1 ? Integer.parseInt(args[1]) : 1;
        Map<String, Integer> answers = new TreeMap<>();
        for (int run = from; run < from + runs; run++) {
            seed = run * 7919L + 17;
            compare(run, answers);
        }
        if (args.length > 0) {
            answers.forEach((call, times) -> System.out.println(call + " " + times));
        }
        Check.end();
    }

    private static int pick(int bound) {
        seed = seed * 6364136223846793005L + 1442695040888963407L;
        return (int) ((seed >>> 33) % bound);
    }

    private static void compare(int run, Map<String, Integer> answers) throws Exception {
        LetterWeb web = new LetterWeb();
        PlainModel model = new PlainModel();
        int persons = 2 + pick(4);
        int places = 1 + pick(3);
        int span = new int[] {12, 40, 200, 985}[pick(4)];
        List<String> told = new ArrayList<>();
        for (int call = 0; call < 160; call++) {
            Object[] row = call < persons ? row("person")
                : call < persons + places ? row("place") : made(persons, places, span);
            String text = row[0] + argumentText(row);
            told.add(text);
            Object want = ask(model, row);
            Object got = ask(web, row);
            answers.merge(row[0] + (want instanceof Class<?> thrown ? " " + thrown.getSimpleName() : ""), 1, Integer::sum);
            Check.due("run " + run + " call " + told.size() + " " + text, got, want);
            if (!want.equals(got)) {
                told.forEach(line -> System.out.println("  " + line));
                return;
            }
        }
    }

    private static String argumentText(Object[] row) {
        StringBuilder text = new StringBuilder("(");
        for (int at = 1; at < row.length; at++) {
            text.append(at > 1 ? ", " : "").append(row[at]);
        }
        return text.append(")").toString();
    }

    private static Object[] row(Object... parts) {
        return parts;
    }

    /** A number below a count, now and then one that is out of it. */
    private static int near(int count) {
        int kind = pick(40);
        return kind == 0 ? -1 : kind == 1 ? count : pick(count);
    }

    private static int letterNear() {
        return near(3 + pick(8));
    }

    private static int day(int span) {
        int kind = pick(50);
        return kind == 0 ? -1 : kind == 1 ? 1000 : kind == 2 ? 999 : pick(span);
    }

    private static Object[] made(int persons, int places, int span) {
        int kind = pick(100);
        boolean either = pick(2) == 0;
        if (kind < 5) {
            int least = near(12);
            return row("route", near(places), near(places), least, least + near(8));
        } else if (kind < 19) {
            return row("letter", near(persons), near(persons), near(places), near(places));
        } else if (kind < 23) {
            return row("answer", letterNear(), letterNear());
        } else if (kind < 27) {
            return row("cross", letterNear(), letterNear());
        } else if (kind < 30) {
            return row("enclose", letterNear(), letterNear());
        } else if (kind < 33) {
            return row("mention", letterNear(), letterNear());
        } else if (kind < 35) {
            return row("lost", letterNear(), near(persons), near(persons));
        } else if (kind < 43) {
            return row("date", letterNear(), day(span), "no??nx".charAt(pick(pick(9) == 0 ? 6 : 5)), near(4) + 1);
        } else if (kind < 45) {
            return row("undate", letterNear());
        } else if (kind < 48) {
            return row("fact", near(persons), day(span) / 2);
        } else if (kind < 56) {
            return row("tell", letterNear(), near(3));
        } else if (kind < 60) {
            return row("show", letterNear(), near(persons));
        }
        return asked(persons, span, either);
    }

    private static Object[] asked(int persons, int span, boolean either) {
        switch (pick(26)) {
            case 0: return row("price");
            case 1: return row("belief", letterNear());
            case 2: return row("earliest", letterNear(), either);
            case 3: return row("latest", letterNear(), either);
            case 4: return row("canBe", letterNear(), either, day(span + 20));
            case 5: return row("order", letterNear(), letterNear());
            case 6: return row("readings");
            case 7: case 8: return row("knows", near(persons), near(3));
            case 9: return row("chain", near(persons), near(3));
            case 10: case 11: return row("chainAt", near(persons), near(3), near(4));
            case 12: return row("priority", near(3), near(persons), near(persons));
            case 13: return row("holder");
            case 14: return row("put", letterNear(), near(3));
            case 15: return row("holderOf", letterNear());
            case 16: return row("held", near(3));
            case 17: return row("heldAt", near(3), near(4));
            case 18: return row("sell", near(3), near(3), either ? -1 : near(persons), near(4));
            case 19: return pick(3) == 0 ? row("publish") : row("isLost", letterNear());
            case 20: return row("numberOf", letterNear());
            case 21: return row("broker", near(persons));
            case 22: return row("silence", near(persons), near(persons));
            case 23: return either ? row("sureShare") : row("personOf", letterNear(), either);
            case 24: return either ? row("meanWidth") : row("isSound");
            default: return row("checksum");
        }
    }

    /** The answer, or the class of the exception that was thrown. */
    private static Object ask(Object asked, Object[] row) throws Exception {
        for (Method method : asked.getClass().getMethods()) {
            if (method.getName().equals(row[0]) && method.getParameterCount() == row.length - 1) {
                try {
                    return method.invoke(asked, java.util.Arrays.copyOfRange(row, 1, row.length));
                } catch (InvocationTargetException thrown) {
                    return thrown.getCause().getClass();
                }
            }
        }
        throw new IllegalStateException("no method " + row[0]);
    }
}
