import java.lang.reflect.InvocationTargetException;
import java.lang.reflect.Method;
import java.lang.reflect.Modifier;
import java.util.HashMap;
import java.util.Map;

/**
 * An object and what is done to it, told by texts: a call as "strike(99, 0, 1)", several alike as "feed(32) * 160",
 * letters that are fed as "feed 'alike 0 1;'", letters and text() as "tell 'alike 0 1;'". MIN and MAX are numbers, too.
 * What an object answers behind its 512th call is free, so no script goes beyond it.
 */
final class Script {
    private static final int MOST_CALLS = 512;
    private static final Map<String, Method> METHODS = methods();
    private static final Map<String, Integer> WORDS = Map.of("BAD", KeySieves.BAD, "STATE", KeySieves.STATE,
        "FULL", KeySieves.FULL, "NONE", KeySieves.NONE, "MIN", Integer.MIN_VALUE, "MAX", Integer.MAX_VALUE);

    private final KeySieves x = new KeySieves();
    private int calls;

    Script(String... steps) {
        for (String step : steps) {
            step(step);
        }
    }

    private static Map<String, Method> methods() {
        Map<String, Method> all = new HashMap<>();
        for (Method m : KeySieves.class.getDeclaredMethods()) {
            if (Modifier.isPublic(m.getModifiers())) {
                all.put(m.getName(), m);
            }
        }
        return all;
    }

    static long number(String text) {
        Integer word = WORDS.get(text);
        return word != null ? word : Long.parseLong(text);
    }

    private void step(String step) {
        if (step.startsWith("feed '")) {
            feed(quoted(step));
        } else if (step.startsWith("tell '")) {
            feed(quoted(step));
            if (call("text()") < 0) {
                throw new IllegalStateException(step + " is refused");
            }
        } else {
            int times = step.indexOf(" * ");
            int n = times < 0 ? 1 : Integer.parseInt(step.substring(times + 3));
            for (int i = 0; i < n; i++) {
                call(times < 0 ? step : step.substring(0, times));
            }
        }
    }

    private static String quoted(String step) {
        return step.substring(step.indexOf('\'') + 1, step.lastIndexOf('\''));
    }

    void feed(String text) {
        for (int i = 0; i < text.length(); i++) {
            counted();
            x.feed(text.charAt(i));
        }
    }

    long call(String call) {
        counted();
        int open = call.indexOf('(');
        String inside = call.substring(open + 1, call.lastIndexOf(')')).trim();
        String[] given = inside.isEmpty() ? new String[0] : inside.split(" *, *");
        Object[] numbers = new Object[given.length];
        for (int i = 0; i < given.length; i++) {
            numbers[i] = (int) number(given[i]);
        }
        try {
            return ((Number) METHODS.get(call.substring(0, open)).invoke(x, numbers)).longValue();
        } catch (InvocationTargetException e) {
            throw new IllegalStateException(call + " threw", e.getCause());
        } catch (IllegalAccessException e) {
            throw new IllegalStateException(call, e);
        }
    }

    private void counted() {
        calls++;
        if (calls > MOST_CALLS) {
            throw new IllegalStateException("the script goes beyond " + MOST_CALLS + " calls");
        }
    }
}
