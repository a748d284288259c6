import java.io.IOException;
import java.lang.reflect.Method;
import java.lang.reflect.Modifier;
import java.nio.file.Files;
import java.nio.file.Path;
import java.util.HashMap;
import java.util.Map;
import java.util.regex.Matcher;
import java.util.regex.Pattern;

/** README.md says how to use the class: its example answers what it says, and its table has all calls. */
public final class ReadmeTest {
    private static final Pattern MADE = Pattern.compile("int (\\w+) = queue\\.(\\w+)\\((.*)\\);\\s*//.*");
    private static final Pattern CALL = Pattern.compile("queue\\.(\\w+)\\((.*)\\);(?:\\s*// (\\d+).*)?");

    private final Check check = new Check("README.md");
    private final Script script = new Script();
    /** The example's names of numbers, and the numbers. */
    private final Map<String, String> names = new HashMap<>();

    public static void main(String[] args) throws IOException {
        String readme = Files.readString(Path.of("README.md"));
        ReadmeTest test = new ReadmeTest();
        for (String line : readme.replaceAll("(?s).*```java\n(.*?)```.*", "$1").split("\n")) {
            test.line(line);
        }
        for (Method method : PrintQueue.class.getDeclaredMethods()) {
            String row = "| `" + method.getName() + "(";
            test.check.holds("no row " + row, readme.contains(row) == Modifier.isPublic(method.getModifiers()));
        }
        test.check.end();
    }

    private void line(String line) {
        Matcher made = MADE.matcher(line);
        Matcher call = CALL.matcher(line);
        if (made.matches()) {
            names.put(made.group(1), answer(made.group(2), made.group(3)));
        } else if (call.matches()) {
            String got = answer(call.group(1), call.group(2));
            String due = call.group(3);
            check.holds(line + " answered " + got, due == null ? !got.startsWith("throws.") : got.equals(due));
        } else {
            check.holds("not a call: " + line, line.equals("PrintQueue queue = new PrintQueue();"));
        }
    }

    /** Java's L of a long is left out, and a name is the number that it was given. */
    private String answer(String call, String arguments) {
        StringBuilder written = new StringBuilder();
        for (String argument : arguments.split(", ")) {
            written.append(written.isEmpty() ? "" : ", ").append(names.getOrDefault(argument, argument.replace("L", "")));
        }
        return script.answer(call + "(" + written + ")");
    }
}
