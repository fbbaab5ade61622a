import java.io.IOException;
import java.lang.reflect.InvocationTargetException;
import java.lang.reflect.Method;
import java.lang.reflect.Modifier;
import java.nio.file.Files;
import java.nio.file.Path;
import java.util.HashMap;
import java.util.Map;
import java.util.regex.Matcher;
import java.util.regex.Pattern;

/** The example in README.md answers what is written behind its calls; its list names each call. */
public final class ReadmeTest {
    private static final Pattern CALL = Pattern.compile(
            "(?:int (\\w+) = )?planner\\.(\\w+)\\(([^)]*)\\); *// ([^:]*).*");
    private static final String FIRST_LINE = "CellPlanner planner = new CellPlanner();";

    private final CellPlanner planner = new CellPlanner();
    private final Map<String, Integer> names = new HashMap<>();

    public static void main(String[] args) throws IOException, IllegalAccessException {
        String text = Files.readString(Path.of("README.md"));
        new ReadmeTest().checkExample(text);
        for (Method method : CellPlanner.class.getDeclaredMethods()) {
            if (Modifier.isPublic(method.getModifiers())) {
                Check.holds("the list names " + method.getName(),
                        text.contains("`" + method.getName() + "("));
            }
        }
        Check.end("ReadmeTest");
    }

    private void checkExample(String text) throws IllegalAccessException {
        String example = text.split("```java\n", 2)[1].split("```", 2)[0];
        for (String line : example.split("\n")) {
            if (line.isBlank() || line.equals(FIRST_LINE)) {
                continue;
            }
            Matcher call = CALL.matcher(line);
            Check.holds("a call with its answer behind: " + line, call.matches());
            if (call.matches()) {
                checkCall(line, call);
            }
        }
    }

    private void checkCall(String line, Matcher call) throws IllegalAccessException {
        String got = answer(call.group(2), arguments(call.group(3)));
        Check.holds(line + " answered " + got, got.equals(call.group(4)));
        if (call.group(1) != null) {
            names.put(call.group(1), Integer.parseInt(got));
        }
    }

    private Object[] arguments(String text) {
        String[] words = text.isEmpty() ? new String[0] : text.split(", ");
        Object[] values = new Object[words.length];
        for (int i = 0; i < words.length; i++) {
            values[i] = names.containsKey(words[i]) ? names.get(words[i]) : Integer.valueOf(words[i]);
        }
        return values;
    }

    private String answer(String name, Object[] arguments) throws IllegalAccessException {
        for (Method method : CellPlanner.class.getMethods()) {
            if (method.getName().equals(name) && method.getParameterCount() == arguments.length) {
                try {
                    Object answer = method.invoke(planner, arguments);
                    return answer == null ? "nothing" : answer.toString();
                } catch (InvocationTargetException e) {
                    return e.getCause().getClass().getSimpleName();
                }
            }
        }
        return "no such call";
    }
}
