import java.io.IOException;
import java.lang.reflect.Constructor;
import java.lang.reflect.Field;
import java.lang.reflect.Method;
import java.lang.reflect.Modifier;
import java.nio.file.Files;
import java.nio.file.Path;
import java.util.Arrays;
import java.util.List;
import java.util.Set;
import java.util.TreeSet;
import java.util.regex.Matcher;
import java.util.regex.Pattern;
import java.util.stream.Collectors;

/** The public face as the document has it, and rules of LANGUAGE.md that can be seen from outside. */
public final class FaceTest {
    private static final Path DOCUMENT = Path.of("../shared/DOC.md");
    private static final Path SOURCE = Path.of("src/main/java/LetterWeb.java");
    private static final List<String> LIBRARY = List.of("import java.util.ArrayList;", "import java.util.Arrays;",
        "import java.util.Iterator;", "import java.util.List;", "import java.util.NoSuchElementException;");
    // What the machine throws by itself is answered by no catch.
    private static final List<String> MACHINE = List.of("ArrayIndexOutOfBoundsException", "NullPointerException",
        "ClassCastException", "NegativeArraySizeException", "ArrayStoreException", "catch (RuntimeException",
        "catch (Exception", "catch (Throwable", "catch (Error", "StackOverflowError");

    private FaceTest() {
    }

    public static void main(String[] args) throws IOException {
        String face = Files.readString(DOCUMENT);
        face = face.substring(face.indexOf("```java"), face.indexOf("## Terms"));
        Set<String> want = new TreeSet<>();
        Matcher line = Pattern.compile("public (\\w+) (\\w+)\\(([^)]*)\\)( throws ([^;]*))?;").matcher(face);
        while (line.find()) {
            String types = Arrays.stream(line.group(3).split(", ")).map(one -> one.split(" ")[0])
                .collect(Collectors.joining(","));
            String thrown = line.group(5) == null ? "" : line.group(5).replace(", ", ",");
            want.add(line.group(1) + " " + line.group(2) + "(" + types + ") " + thrown);
        }
        Check.due("the document's methods", want.size(), 41);
        Set<String> got = new TreeSet<>();
        Set<String> names = new TreeSet<>();
        for (Method method : LetterWeb.class.getDeclaredMethods()) {
            if (Modifier.isPublic(method.getModifiers())) {
                got.add(signature(method));
                names.add(method.getName());
                Check.due(method + " is of an object", Modifier.isStatic(method.getModifiers()), false);
            }
        }
        Check.due("the public methods", got, want);
        Check.due("the class", Modifier.toString(LetterWeb.class.getModifiers()), "public final");
        checkHidden(names);
        checkSource(Files.readString(SOURCE));
        Check.end();
    }

    private static String signature(Method method) {
        return method.getReturnType().getSimpleName() + " " + method.getName() + "("
            + Arrays.stream(method.getParameterTypes()).map(Class::getSimpleName).collect(Collectors.joining(","))
            + ") " + Arrays.stream(method.getExceptionTypes()).map(Class::getSimpleName).collect(Collectors.joining(","));
    }

    private static void checkHidden(Set<String> names) {
        Constructor<?>[] constructors = LetterWeb.class.getDeclaredConstructors();
        Check.due("constructors", constructors.length, 1);
        Check.due("the constructor", constructors[0].toString(), "public LetterWeb()");
        for (Field field : LetterWeb.class.getDeclaredFields()) {
            Check.due(field + " is private", Modifier.isPrivate(field.getModifiers()), true);
        }
        for (Method method : LetterWeb.class.getDeclaredMethods()) {
            if (!Modifier.isPublic(method.getModifiers())) {
                Check.due(method + " is private", Modifier.isPrivate(method.getModifiers()), true);
                Check.due(method + " bears a public name", names.contains(method.getName()), false);
            }
        }
        Check.due("some twelve classes at most", LetterWeb.class.getDeclaredClasses().length <= 12, true);
        for (Class<?> inside : LetterWeb.class.getDeclaredClasses()) {
            Check.due(inside + " is static", Modifier.isStatic(inside.getModifiers()), true);
            for (Method method : inside.getDeclaredMethods()) {
                boolean isHidden = Modifier.isPrivate(method.getModifiers());
                Check.due(method + " bears a public name", isHidden && names.contains(method.getName()), false);
            }
            checkStatics(inside);
        }
        checkStatics(LetterWeb.class);
    }

    private static void checkStatics(Class<?> seen) {
        int fields = 0;
        for (Field field : seen.getDeclaredFields()) {
            if (Modifier.isStatic(field.getModifiers())) {
                Check.due(field + " is final", Modifier.isFinal(field.getModifiers()), true);
            } else {
                fields++;
            }
        }
        Check.due(seen + " has some twenty fields at most", fields <= 22, true);
        for (Method method : seen.getDeclaredMethods()) {
            Check.due(method + " has at most seven parameters", method.getParameterCount() <= 7, true);
        }
    }

    private static void checkSource(String source) {
        for (String line : source.lines().filter(one -> one.startsWith("import ")).toList()) {
            Check.due(line + " is of the library that there is", LIBRARY.contains(line), true);
        }
        for (String barred : List.of("::", "package ", "assert ", "synchronized", "finally", "hashCode", "Exact(", "Math.random",
            "System.out", "System.nano", "System.current", "System.exit", "Thread")) {
            Check.due("the source has " + barred, source.contains(barred), false);
        }
        Check.due("it has lambdas", source.lines().anyMatch(line -> line.matches("(?!\\s*(case|default|//|\\*)).*->.*")), false);
        for (String thrown : MACHINE) {
            Check.due("the source names " + thrown, source.contains(thrown), false);
        }
        Check.due("signs are 1 to 127", source.chars().allMatch(sign -> sign > 0 && sign < 128), true);
        checkMethods(source);
    }

    /** Methods end at the brace that stands as far in as they begin. */
    private static void checkMethods(String source) {
        Matcher method = Pattern.compile("(?m)^( {4}| {8})(?:public |private )[^;={(]*?(\\w+)\\([^;]*\\{\\n(?s:.*?)^\\1\\}").matcher(source);
        int longest = 0;
        int count = 0;
        while (method.find()) {
            String text = method.group();
            String name = method.group(2);
            longest = Math.max(longest, (int) text.lines().count());
            count++;
            // A method that calls itself is static; others that recur call one another.
            boolean isRecurring = Pattern.compile("(?<![.\\w])" + name + "\\(").matcher(text.substring(text.indexOf('{'))).find();
            Check.due(name + " calls itself", isRecurring && !text.lines().findFirst().orElse("").contains(" static "), false);
        }
        Check.due("methods that were looked at", count > 120, true);
        Check.due("methods have some sixty lines at most", longest <= 66, true);
    }
}
