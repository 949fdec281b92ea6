import java.io.IOException;
import java.lang.reflect.InvocationTargetException;
import java.lang.reflect.Method;
import java.lang.reflect.Modifier;
import java.nio.file.Files;
import java.nio.file.Path;
import java.util.Arrays;
import java.util.List;
import java.util.Set;
import java.util.TreeSet;
import java.util.regex.Matcher;
import java.util.regex.Pattern;
import java.util.stream.Collectors;
import java.util.stream.Stream;

/** Tries what README.md says: each call of its example, and the names of the calls and of the tests. */
public final class ReadmeTest {
    private static final Path README = Path.of("README.md");
    private static final Path TESTS = Path.of("src/test/java");
    private static final Pattern CALL = Pattern.compile("x\\.(\\w+)\\((.*)\\); +// (-?\\d+)(:? .*)?");
    private static final Check C = new Check();

    public static void main(String[] args) throws IOException {
        C.about("README.md");
        String text = Files.readString(README);
        example(exampleOf(text));
        testsAreNamed(text);
        C.end("ReadmeTest");
    }

    private static List<String> exampleOf(String text) {
        int start = text.indexOf("```java\n") + "```java\n".length();
        return text.substring(start, Math.max(start, text.indexOf("```", start))).lines().toList();
    }

    private static void example(List<String> lines) {
        C.due("the example begins with a new object", lines.indexOf("TiedThrees x = new TiedThrees();"), 0);
        TiedThrees x = new TiedThrees();
        Set<String> called = new TreeSet<>();
        for (String line : lines.subList(1, lines.size())) {
            Matcher call = CALL.matcher(line);
            if (call.matches()) {
                called.add(call.group(1));
                C.due(line, answer(x, call.group(1), call.group(2)), Long.parseLong(call.group(3)));
            } else {
                C.that("is neither a call with its answer nor a comment: " + line, line.isEmpty() || line.startsWith("// "));
            }
        }
        for (Method method : TiedThrees.class.getDeclaredMethods()) {
            boolean ofFace = Modifier.isPublic(method.getModifiers());
            C.that("the example does not call " + method.getName(), !ofFace || called.contains(method.getName()));
        }
    }

    private static long answer(TiedThrees x, String name, String told) {
        List<String> numbers = told.isEmpty() ? List.of() : Arrays.asList(told.split(", "));
        for (Method method : TiedThrees.class.getDeclaredMethods()) {
            if (method.getName().equals(name) && method.getParameterCount() == numbers.size()) {
                return answer(x, method, numbers);
            }
        }
        C.that("there is no call " + name + " of " + numbers.size() + " numbers", false);
        return 0;
    }

    private static long answer(TiedThrees x, Method method, List<String> numbers) {
        Object[] given = new Object[numbers.size()];
        for (int i = 0; i < given.length; i++) {
            long v = number(numbers.get(i));
            given[i] = method.getParameterTypes()[i] == long.class ? (Object) v : (Object) (int) v;
        }
        try {
            return ((Number) method.invoke(x, given)).longValue();
        } catch (IllegalAccessException | InvocationTargetException e) {
            C.that(method.getName() + " can not be called: " + e, false);
            return 0;
        }
    }

    private static long number(String told) {
        return told.equals("TiedThrees.NONE") ? TiedThrees.NONE : Long.decode(told.replaceAll("L$", ""));
    }

    private static void testsAreNamed(String text) throws IOException {
        Set<String> named = new TreeSet<>();
        Matcher name = Pattern.compile("`(\\w+Test)`").matcher(text);
        while (name.find()) {
            named.add(name.group(1));
        }
        try (Stream<Path> files = Files.list(TESTS)) {
            Set<String> there = files.map(file -> file.getFileName().toString()).filter(file -> file.endsWith("Test.java"))
                .map(file -> file.replace(".java", "")).collect(Collectors.toCollection(TreeSet::new));
            C.that("names the tests " + named + ", there are " + there, named.equals(there));
        }
    }
}
