import java.lang.reflect.InvocationTargetException;
import java.lang.reflect.Method;
import java.util.ArrayList;
import java.util.Comparator;
import java.util.List;
import java.util.Set;
import java.util.TreeSet;

/** Runs all tests of one class that bear a sentence of the document, in the order of the promises. */
final class Sentences {
    private Sentences() {
    }

    static void run(Class<?> tests, Check check, int firstPromise, int lastPromise) {
        Set<Integer> tested = new TreeSet<>();
        for (Method method : of(tests)) {
            Says says = method.getAnnotation(Says.class);
            tested.add(says.promise());
            check.about("promise " + says.promise() + ", \"" + says.text() + "\" (" + method.getName() + ")");
            runOne(method, check);
        }
        check.about(tests.getSimpleName());
        for (int promise = firstPromise; promise <= lastPromise; promise++) {
            check.that("promise " + promise + " has no test", tested.contains(promise));
        }
        check.end(tests.getSimpleName());
    }

    private static List<Method> of(Class<?> tests) {
        List<Method> all = new ArrayList<>();
        for (Method method : tests.getDeclaredMethods()) {
            if (method.isAnnotationPresent(Says.class)) {
                all.add(method);
            }
        }
        // getDeclaredMethods has no order of its own
        all.sort(Comparator.comparing((Method m) -> m.getAnnotation(Says.class).promise()).thenComparing(Method::getName));
        return all;
    }

    private static void runOne(Method method, Check check) {
        try {
            method.invoke(null);
        } catch (InvocationTargetException e) {
            check.that("threw " + e.getCause(), false);
        } catch (IllegalAccessException e) {
            check.that("can not be run: " + e, false);
        }
    }
}
