import java.lang.reflect.Method;
import java.lang.reflect.Modifier;
import java.nio.file.Files;
import java.nio.file.Path;
import java.util.HashMap;
import java.util.List;
import java.util.Map;
import java.util.regex.Matcher;
import java.util.regex.Pattern;

/** The examples of README.md: each call in them must answer what stands behind it. */
public final class ReadmeTest {
    private static final Path README = Path.of("README.md");
    private static final Pattern CALL =
        Pattern.compile("(?:int (\\w+) = )?(house\\.(\\w+)\\((.*)\\)); // (-?\\d+|true|false)(?:: .*)?");
    private static final Check check = new Check("ReadmeTest");

    private static TaskHouse house;
    private static final Map<String, Integer> named = new HashMap<>();
    private static int examples = 0;

    public static void main(String[] args) throws Exception {
        boolean inside = false;
        for (String line : Files.readAllLines(README)) {
            if (line.equals("```java") || inside && line.equals("```")) {
                inside = !inside;
            } else if (inside) {
                follow(line);
            }
        }
        check.same("an example is left open", inside, false);
        check.same("examples in " + README, examples, 2);
        everyCallIsNamed();
        check.finish();
    }

    private static void follow(String line) throws Exception {
        if (line.equals("TaskHouse house = new TaskHouse();")) {
            house = new TaskHouse();
            named.clear();
            named.put("TaskHouse.NONE", TaskHouse.NONE);
            examples++;
            return;
        }
        Matcher call = CALL.matcher(line);
        check.same("'" + line + "' is a call with its answer", call.matches(), true);
        if (call.matches()) {
            int got = number(answer(call.group(3), call.group(4)));
            check.same(call.group(2), got, number(argument(call.group(5))));
            if (call.group(1) != null) {
                named.put(call.group(1), got);
            }
        }
    }

    private static Object answer(String name, String text) throws Exception {
        List<String> words = text.isEmpty() ? List.of() : List.of(text.split(", "));
        for (Method method : TaskHouse.class.getMethods()) {
            if (method.getName().equals(name) && method.getDeclaringClass() == TaskHouse.class) {
                return method.invoke(house, words.stream().map(ReadmeTest::argument).toArray());
            }
        }
        throw new IllegalStateException("no call " + name);
    }

    private static Object argument(String word) {
        if (word.equals("true") || word.equals("false")) {
            return word.equals("true");
        }
        return named.containsKey(word) ? named.get(word) : Integer.decode(word);
    }

    private static int number(Object it) {
        return it instanceof Boolean truth ? truth ? 1 : 0 : (Integer) it;
    }

    /** The table of calls leaves none out. */
    private static void everyCallIsNamed() throws Exception {
        String table = Files.readString(README);
        for (Method method : TaskHouse.class.getDeclaredMethods()) {
            if (Modifier.isPublic(method.getModifiers())) {
                boolean there = Pattern.compile("(?m)^\\|.*`" + method.getName() + "`").matcher(table).find();
                check.same(method.getName() + " stands in the table of calls", there, true);
            }
        }
    }
}
