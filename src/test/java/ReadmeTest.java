import java.io.IOException;
import java.lang.reflect.Method;
import java.nio.file.Files;
import java.nio.file.Path;
import java.util.ArrayList;
import java.util.HashMap;
import java.util.List;
import java.util.Map;
import java.util.Set;
import java.util.TreeSet;
import java.util.regex.Matcher;
import java.util.regex.Pattern;

/** Runs the example of README.md as it stands there: each call answers what stands behind it. */
public final class ReadmeTest {
    private static final String MAKES_THE_SHELF = "ZoneShelf shelf = new ZoneShelf();";
    private static final Pattern CALL =
        Pattern.compile("(?:int (\\w+) = )?shelf\\.(\\w+)\\(([^()]*)\\); *// (-?\\w+)(?:: .*)?");

    private final Check check = new Check("README.md");
    private final Map<String, Object> known = new HashMap<>();
    private final Set<String> called = new TreeSet<>();
    private ZoneShelf shelf = null;

    private ReadmeTest() {
        known.put("NONE", ZoneShelf.NONE);
        known.put("true", true);
        known.put("false", false);
    }

    public static void main(String[] args) throws IOException, ReflectiveOperationException {
        ReadmeTest test = new ReadmeTest();
        for (String line : example()) {
            test.run(line);
        }
        test.check.due("calls in the example", String.join(" ", test.called), String.join(" ", callsOfTheFace()));
        Check.end();
    }

    /** The lines between ```java and the next ```, but for empty ones. */
    private static List<String> example() throws IOException {
        List<String> example = new ArrayList<>();
        boolean inside = false;
        for (String line : Files.readAllLines(Path.of("README.md"))) {
            if (line.startsWith("```")) {
                inside = line.equals("```java");
            } else if (inside && !line.isBlank()) {
                example.add(line);
            }
        }
        return example;
    }

    private void run(String line) throws ReflectiveOperationException {
        Matcher call = CALL.matcher(line);
        if (line.equals(MAKES_THE_SHELF)) {
            shelf = new ZoneShelf();
        } else if (call.matches()) {
            Object answer = answer(call.group(2), call.group(3));
            check.due(line, answer.toString(), value(call.group(4)).toString());
            if (call.group(1) != null) {
                known.put(call.group(1), answer);
            }
        } else {
            check.due("a line without a call and its answer", line, "");
        }
    }

    private Object answer(String name, String arguments) throws ReflectiveOperationException {
        called.add(name);
        Object[] values = values(arguments);
        return face(name).invoke(shelf, values);
    }

    private Object[] values(String arguments) {
        List<Object> values = new ArrayList<>();
        for (String argument : arguments.isEmpty() ? new String[0] : arguments.split(", ")) {
            values.add(value(argument));
        }
        return values.toArray();
    }

    private Object value(String text) {
        return known.containsKey(text) ? known.get(text) : Integer.valueOf(text);
    }

    private static Method face(String name) throws NoSuchMethodException {
        for (Method m : ZoneShelf.class.getMethods()) {
            if (m.getName().equals(name)) {
                return m;
            }
        }
        throw new NoSuchMethodException(name);
    }

    private static Set<String> callsOfTheFace() {
        Set<String> names = new TreeSet<>();
        for (Method m : ZoneShelf.class.getMethods()) {
            if (m.getDeclaringClass() == ZoneShelf.class) {
                names.add(m.getName());
            }
        }
        return names;
    }
}
