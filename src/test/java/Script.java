import java.lang.reflect.InvocationTargetException;
import java.lang.reflect.Method;
import java.util.ArrayList;
import java.util.List;
import java.util.regex.Matcher;
import java.util.regex.Pattern;

/**
 * Calls that are written as text, made on a new object. A line, or what stands between semicolons, is one
 * call with what is due: {@code take(1, 0) = 2} an answer, {@code take(9, 0) ! NoSuchElement} an exception,
 * {@code take(1, 0)} any answer, but no exception. {@code 3 x take(1, 0)} is made three times;
 * {@code 3 x printer(0, 1) = 1..} is due to answer 1, 2, 3. MIN and MAX are the least and the greatest
 * number of the argument's type; behind # a line says why.
 */
final class Script {
    /** An object is used for so many; what later calls answer is free, so a script must not go beyond. */
    static final int MOST_CALLS = 512;
    private static final Pattern CALL =
            Pattern.compile("(?:(\\d+) x )?((\\w+)\\(([^)]*)\\))\\s*(?:([=!])\\s*(-?\\w+)(\\.\\.)?)?");

    private final PrintQueue queue = new PrintQueue();
    private int calls = 0;

    /** Runs the calls on a new object, and counts them; wrong answers are told with the document's sentence. */
    static int says(Check check, String sentence, String... texts) {
        check.sentence(sentence);
        Script script = new Script();
        for (String text : texts) {
            for (String call : callsOf(text)) {
                script.check(check, call);
            }
        }
        return script.calls;
    }

    /** The calls of a text, one by one, without the reasons. */
    static List<String> callsOf(String text) {
        List<String> all = new ArrayList<>();
        for (String line : text.split("\n")) {
            for (String call : line.replaceAll("#.*", "").split(";")) {
                if (!call.isBlank()) {
                    all.add(call.strip());
                }
            }
        }
        return all;
    }

    /** Makes a call as often as it is written to be, whatever it answers. */
    void repeat(String text) {
        Matcher parts = parts(text);
        for (int i = 0; i < times(parts); i++) {
            answer(parts.group(2));
        }
    }

    private static int times(Matcher parts) {
        return parts.group(1) == null ? 1 : Integer.parseInt(parts.group(1));
    }

    private static Matcher parts(String call) {
        Matcher parts = CALL.matcher(call);
        if (!parts.matches()) {
            throw new IllegalArgumentException("not a call: " + call);
        }
        return parts;
    }

    private void check(Check check, String text) {
        Matcher parts = parts(text);
        for (int i = 0; i < times(parts); i++) {
            String got = answer(parts.group(2));
            String told = parts.group(2) + " as call " + calls + " answered " + got;
            if (parts.group(5) == null) {
                check.holds(told, !got.startsWith("throws."));
            } else if (parts.group(5).equals("!")) {
                String due = "throws." + parts.group(6) + "Exception";
                check.holds(told + ", due is " + due, got.equals(due));
            } else {
                long due = Long.parseLong(parts.group(6)) + (parts.group(7) == null ? 0 : i);
                check.holds(told + ", due is " + due, got.equals(Long.toString(due)));
            }
        }
    }

    /** What one call answers: a number, or throws. and the exception's name. */
    String answer(String call) {
        calls++;
        if (calls > MOST_CALLS) {
            throw new IllegalStateException("a script of more than 512 calls, at " + call);
        }
        Matcher parts = parts(call);
        Method method = method(parts.group(3));
        Object[] arguments = arguments(method, parts.group(4));
        try {
            return method.invoke(queue, arguments).toString();
        } catch (InvocationTargetException e) {
            return "throws." + nameOf(e.getCause());
        } catch (IllegalAccessException e) {
            throw new IllegalStateException(e);
        }
    }

    private static String nameOf(Throwable thrown) {
        String name = thrown.getClass().getSimpleName();
        return Check.ownThrow(thrown) ? name : name + ".from.elsewhere";
    }

    private static Method method(String name) {
        for (Method method : PrintQueue.class.getDeclaredMethods()) {
            if (method.getName().equals(name)) {
                return method;
            }
        }
        throw new IllegalArgumentException("no such method: " + name);
    }

    private static Object[] arguments(Method method, String text) {
        String[] written = text.split(",");
        Class<?>[] types = method.getParameterTypes();
        if (written.length != types.length) {
            throw new IllegalArgumentException(method + " does not take " + text);
        }
        Object[] all = new Object[types.length];
        for (int i = 0; i < all.length; i++) {
            all[i] = argument(types[i], written[i].strip());
        }
        return all;
    }

    private static Object argument(Class<?> type, String text) {
        if (type == boolean.class) {
            return Boolean.valueOf(text);
        }
        if (type == long.class) {
            return text.equals("MIN") ? Long.MIN_VALUE : text.equals("MAX") ? Long.MAX_VALUE : Long.parseLong(text);
        }
        return text.equals("MIN") ? Integer.MIN_VALUE : text.equals("MAX") ? Integer.MAX_VALUE : Integer.parseInt(text);
    }
}
