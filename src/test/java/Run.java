import java.lang.reflect.InvocationTargetException;
import java.lang.reflect.Method;
import java.util.HashMap;
import java.util.Map;
import java.util.NoSuchElementException;

/**
 * An object whose calls are told as text, "ask 2 0" or "cut 0 1 true". With the class itself it goes
 * no further than the 512 calls for which the document says what is due, so that no test asks for more.
 */
final class Run {
    /** What a call answers here that throws NoSuchElementException. */
    static final long THROWN = Long.MIN_VALUE;
    static final int MOST_CALLS = 512;

    private static final Map<Class<?>, Map<String, Method>> METHODS = new HashMap<>();

    private final Object placer;
    private final Map<String, Method> methods;
    private int calls;

    Run(Object placer) {
        this.placer = placer;
        methods = METHODS.computeIfAbsent(placer.getClass(), Run::methodsOf);
    }

    private static Map<String, Method> methodsOf(Class<?> c) {
        Map<String, Method> found = new HashMap<>();
        for (Method m : c.getDeclaredMethods()) {
            found.put(m.getName(), m);
        }
        return found;
    }

    /** The answer, a boolean as 1 or 0. */
    long call(String told) {
        calls++;
        if (calls > MOST_CALLS && placer instanceof CopyPlacer) {
            throw new IllegalStateException("a test makes more than " + MOST_CALLS + " calls: " + told);
        }
        String[] words = told.split(" ");
        Method method = methods.get(words[0]);
        Object[] given = new Object[words.length - 1];
        for (int i = 0; i < given.length; i++) {
            boolean isTruth = method.getParameterTypes()[i] == boolean.class;
            given[i] = isTruth ? (Object) truth(words[i + 1]) : (Object) Integer.valueOf(words[i + 1]);
        }
        try {
            return number(method.invoke(placer, given));
        } catch (InvocationTargetException e) {
            if (e.getCause() instanceof NoSuchElementException) {
                return THROWN;
            }
            throw new IllegalStateException(told + " threw", e.getCause());
        } catch (IllegalAccessException e) {
            throw new IllegalStateException(e);
        }
    }

    private static boolean truth(String word) {
        if (!word.equals("true") && !word.equals("false")) {
            throw new IllegalStateException("neither true nor false: " + word);
        }
        return word.equals("true");
    }

    private static long number(Object answer) {
        if (answer instanceof Boolean) {
            return (Boolean) answer ? 1 : 0;
        }
        return ((Number) answer).longValue();
    }

    void callAll(String... told) {
        for (String call : told) {
            call(call);
        }
    }

    int callsLeft() {
        return MOST_CALLS - calls;
    }
}
