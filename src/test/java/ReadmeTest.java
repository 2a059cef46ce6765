import java.lang.reflect.Method;
import java.nio.file.Files;
import java.nio.file.Path;
import java.util.Map;
import java.util.Set;
import java.util.TreeMap;
import java.util.TreeSet;
import java.util.regex.Matcher;
import java.util.regex.Pattern;

/** Makes every call of the example in README.md, and holds each answer against the one that stands behind it. */
public final class ReadmeTest {
    private static final Pattern MADE =
        Pattern.compile("CleanMatrix matrix = new CleanMatrix\\((\\d+), (\\d+)\\); .*");
    private static final Pattern CALL =
        Pattern.compile("(?:int (\\w+) = )?matrix\\.(\\w+)\\((.*?)\\); +// ([-\\w]+)(?:: .*)?");

    private static final Check CHECK = new Check();
    private static final Set<String> CALLED = new TreeSet<>();
    private static final Map<String, Long> NAMES = new TreeMap<>();
    private static CleanMatrix matrix = null;

    public static void main(String[] args) throws Exception {
        boolean inside = false;
        for (String line : Files.readAllLines(Path.of("README.md"))) {
            if (line.startsWith("```")) {
                inside = line.equals("```java");
            } else if (inside && !line.isEmpty()) {
                follow(line);
            }
        }
        for (Method method : CleanMatrix.class.getMethods()) {
            if (method.getDeclaringClass() == CleanMatrix.class) {
                CHECK.due("called in README.md: " + method.getName(), CALLED.contains(method.getName()), true);
            }
        }
        CHECK.end();
    }

    private static void follow(String line) throws Exception {
        Matcher made = MADE.matcher(line);
        Matcher call = CALL.matcher(line);
        if (made.matches()) {
            matrix = new CleanMatrix(Integer.parseInt(made.group(1)), Integer.parseInt(made.group(2)));
        } else if (call.matches() && matrix != null) {
            long got = answer(call.group(2), call.group(3));
            CHECK.due(line, got, number(call.group(4)));
            if (call.group(1) != null) {
                NAMES.put(call.group(1), got);
            }
        } else {
            CHECK.due("a line with an answer: " + line, false, true);
        }
    }

    private static long answer(String name, String words) throws Exception {
        CALLED.add(name);
        String[] given = words.isEmpty() ? new String[0] : words.split(", ");
        Method method = find(name);
        Object[] values = new Object[given.length];
        for (int place = 0; place < given.length; place++) {
            long value = number(given[place]);
            boolean narrow = method.getParameterTypes()[place] == int.class;
            // Not by ?: as that would make both of them longs.
            if (narrow) {
                values[place] = Math.toIntExact(value);
            } else {
                values[place] = value;
            }
        }
        Object answer = method.invoke(matrix, values);
        return answer instanceof Boolean yes ? Twins.number(yes) : ((Number) answer).longValue();
    }

    private static Method find(String name) {
        for (Method method : CleanMatrix.class.getMethods()) {
            if (method.getName().equals(name)) {
                return method;
            }
        }
        throw new IllegalArgumentException("README.md calls " + name);
    }

    private static long number(String word) {
        switch (word) {
            case "true": return 1;
            case "false": return 0;
            case "NONE": return CleanMatrix.NONE;
            case "FULL": return CleanMatrix.FULL;
            default: return NAMES.containsKey(word) ? NAMES.get(word) : Long.parseLong(word.replace("_", ""));
        }
    }
}
