import java.lang.reflect.InvocationTargetException;
import java.lang.reflect.Method;
import java.util.ArrayList;
import java.util.Arrays;
import java.util.HashMap;
import java.util.List;
import java.util.Map;

/** A row of calls that can be made anew on a fresh object, so that two objects can stand in the same state. */
final class Script {
    private static final Map<String, Method> METHODS = new HashMap<>();

    private final List<Object[]> calls = new ArrayList<>();

    static Object[] row(Object... parts) {
        return parts;
    }

    /** The answer of a call, or the class of the exception that was thrown. */
    static Object ask(Object asked, Object... row) {
        Method method = METHODS.computeIfAbsent(asked.getClass().getName() + "." + row[0], name -> find(asked, row));
        try {
            return method.invoke(asked, Arrays.copyOfRange(row, 1, row.length));
        } catch (InvocationTargetException thrown) {
            return thrown.getCause().getClass();
        } catch (IllegalAccessException thrown) {
            throw new IllegalStateException(thrown);
        }
    }

    private static Method find(Object asked, Object[] row) {
        return Arrays.stream(asked.getClass().getMethods())
            .filter(method -> method.getName().equals(row[0]) && method.getParameterCount() == row.length - 1)
            .findFirst().orElseThrow();
    }

    static String textOf(Object[] row) {
        StringBuilder text = new StringBuilder().append(row[0]).append('(');
        for (int at = 1; at < row.length; at++) {
            text.append(at > 1 ? ", " : "").append(row[at]);
        }
        return text.append(')').toString();
    }

    Script then(Object... row) {
        calls.add(row);
        return this;
    }

    /** Tells calls by name and numbers: "answer(1, 0)". */
    Script thenAll(String... texts) {
        for (String text : texts) {
            calls.add(read(text));
        }
        return this;
    }

    /** A call that is told as text. */
    static Object[] read(String text) {
        String[] parts = text.substring(0, text.length() - 1).split("\\(|, ");
        Object[] row = new Object[parts.length];
        row[0] = parts[0];
        for (int at = 1; at < parts.length; at++) {
            row[at] = argument(parts[at]);
        }
        return row;
    }

    private static Object argument(String text) {
        if (text.startsWith("'")) {
            return text.charAt(1);
        }
        return text.matches("true|false") ? (Object) Boolean.valueOf(text) : (Object) Integer.valueOf(text);
    }

    int size() {
        return calls.size();
    }

    /** A fresh object after all calls, none of which may be refused. */
    LetterWeb made() {
        LetterWeb web = new LetterWeb();
        play(web);
        return web;
    }

    void play(Object fresh) {
        for (Object[] row : calls) {
            Object got = ask(fresh, row);
            if (got instanceof Class<?>) {
                Check.due("script: " + textOf(row), got, "no exception");
            }
        }
    }
}
