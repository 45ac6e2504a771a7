import java.lang.reflect.InvocationTargetException;
import java.lang.reflect.Method;

/**
 * A run of calls on a trail, written as in the document's examples: "edition(1500, 2) = 0; cost(0) throws
 * IndexOutOfBoundsException; owner(1500, 1500, 0)". A call without an answer must not throw. MIN and MAX
 * are the least and the greatest int.
 */
final class Run {
    private static final int MOST_CALLS = 512;

    private final String title;
    private final Object trail;
    private int calls;

    Run(String title) {
        this(title, new Exlibristrail());
    }

    Run(String title, Object trail) {
        this.title = title;
        this.trail = trail;
    }

    /** The run of a new trail. */
    static Run of(String title, String text) {
        return new Run(title).then(text);
    }

    Run then(String text) {
        for (String part : text.split(";")) {
            if (!part.isBlank()) {
                check(part.strip().replaceAll("\\s+", " "));
            }
        }
        return this;
    }

    /** Makes the call as often as told; each time the answer is one more than the last time, from the first on. */
    Run count(String call, int first, int times) {
        for (int count = 0; count < times; count++) {
            then(call + " = " + (first + count));
        }
        return this;
    }

    private void check(String row) {
        int end = row.indexOf(')') + 1;
        String call = row.substring(0, end);
        String due = row.substring(end).strip();
        String got = answer(call);
        if (due.isEmpty()) {
            Check.is(title + ": " + call + " answers", got.startsWith("throws "), false);
        } else {
            Check.is(title + ": " + call, got, due.startsWith("= ") ? due.substring(2).replace("'", "") : due);
        }
    }

    /** What the call answers, or "throws" and the exception's name. */
    String answer(String call) {
        calls++;
        if (calls > MOST_CALLS) {
            throw new AssertionError(title + ": more calls than an object is used for");
        }
        int open = call.indexOf('(');
        Method method = methodOf(call.substring(0, open));
        String inside = call.substring(open + 1, call.length() - 1).strip();
        String[] texts = inside.isEmpty() ? new String[0] : inside.split(", ");
        Object[] values = new Object[texts.length];
        for (int place = 0; place < texts.length; place++) {
            values[place] = valueOf(texts[place], method.getParameterTypes()[place]);
        }
        return answer(method, values);
    }

    private String answer(Method method, Object[] values) {
        try {
            return String.valueOf(method.invoke(trail, values));
        } catch (InvocationTargetException e) {
            String name = Check.nameOf((RuntimeException) e.getCause());
            return "throws " + name.substring(name.lastIndexOf('.') + 1);
        } catch (IllegalAccessException e) {
            throw new AssertionError(e);
        }
    }

    private Method methodOf(String name) {
        for (Method method : trail.getClass().getDeclaredMethods()) {
            if (method.getName().equals(name)) {
                return method;
            }
        }
        throw new AssertionError(title + ": no method " + name);
    }

    private static Object valueOf(String text, Class<?> type) {
        if (type == boolean.class) {
            return Boolean.valueOf(text);
        }
        if (type == char.class) {
            return text.startsWith("'") ? text.charAt(1) : (char) Integer.parseInt(text);
        }
        if (text.equals("MIN")) {
            return Integer.MIN_VALUE;
        }
        return text.equals("MAX") ? Integer.MAX_VALUE : Integer.parseInt(text);
    }
}
