import java.lang.reflect.InvocationTargetException;
import java.lang.reflect.Method;
import java.lang.reflect.Modifier;
import java.util.Arrays;

/** The program and the Model beside each other: each gets every call, and both must answer the same. */
final class Pair {
    private final TiedThrees x = new TiedThrees();
    private final Model m = new Model();
    private final Check check;
    private String told;

    Pair(Check check, String told) {
        this.check = check;
        this.told = told;
    }

    void call(String name, long... numbers) {
        String numbersTold = Arrays.toString(numbers);
        String call = name + "(" + numbersTold.substring(1, numbersTold.length() - 1) + ")";
        check.due(told + ": " + call, answer(x, name, numbers), answer(m, name, numbers));
    }

    /** What is called behind this is told as being behind it. */
    void behind(String more) {
        told = told + ", " + more;
    }

    /** Types a text, eight bytes a call. */
    void type(String text) {
        for (int i = 0; i < text.length(); i += 8) {
            String part = text.substring(i, Math.min(text.length(), i + 8));
            long v = 0;
            for (int j = 0; j < part.length(); j++) {
                v = v << 8 | part.charAt(j);
            }
            call("type", v, part.length());
        }
    }

    /** Asks for all that can be seen; what THE TEXT and the IMAGES keep comes last, as that changes what there is. */
    void lookAtAll() {
        lookAtWhatThereIs();
        call("day", 7, TiedThrees.NONE);
        call("day", 7, 9);
        call("best", 7);
        call("most", 0);
        call("which", 0, TiedThrees.NONE);
        call("knows", 1, 1);
        call("read");
        lookAtWhatThereIs();
        for (int image = 0; image < 2; image++) {
            call("from", image);
            lookAtWhatThereIs();
        }
    }

    private void lookAtWhatThereIs() {
        for (int what = 0; what < 3; what++) {
            call("status", what);
        }
        for (int what = 0; what <= 5; what++) {
            call("count", what);
        }
        call("part", 0);
        call("part", 1);
        call("digest");
    }

    private static long answer(Object on, String name, long... numbers) {
        for (Method method : on.getClass().getDeclaredMethods()) {
            boolean open = !Modifier.isPrivate(method.getModifiers());
            if (open && method.getName().equals(name) && method.getParameterCount() == numbers.length) {
                return answer(on, method, numbers);
            }
        }
        throw new IllegalArgumentException("no call " + name + " of " + numbers.length + " numbers");
    }

    private static long answer(Object on, Method method, long... numbers) {
        Object[] given = new Object[numbers.length];
        for (int i = 0; i < given.length; i++) {
            given[i] = method.getParameterTypes()[i] == long.class ? (Object) numbers[i] : (Object) (int) numbers[i];
        }
        try {
            return ((Number) method.invoke(on, given)).longValue();
        } catch (IllegalAccessException | InvocationTargetException e) {
            throw new IllegalStateException(method.getName() + " can not be called", e);
        }
    }
}
