import java.io.IOException;
import java.lang.reflect.InvocationTargetException;
import java.lang.reflect.Method;
import java.lang.reflect.Modifier;
import java.nio.file.Files;
import java.nio.file.Path;
import java.util.List;
import java.util.Map;
import java.util.Set;
import java.util.TreeMap;
import java.util.TreeSet;
import java.util.regex.Matcher;
import java.util.regex.Pattern;
import java.util.stream.Stream;

/** README.md is so: the calls that it shows answer what it names, and it names what there is to call and to run. */
public final class ReadmeTest {

    private static final Check CHECK = new Check();

    private static final String NEW_DESK = "RangeDesk desk = new RangeDesk();";
    private static final Pattern SHOWN = Pattern.compile(
            "desk\\.(\\w+)\\(([^()]*)\\); +// (true|false|-?\\d+|throws \\w+): .+");
    private static final Pattern NUMBERED = Pattern.compile("\\| (\\d+(?:, \\d+)*) \\| ([A-Z]+(?:, | |[A-Z])*) \\| .+");

    private static final String[] OPERATIONS = {
        "ADD", "SUBTRACT", "MULTIPLY", "DIVIDE", "REST", "AND", "OR", "XOR",
        "LEFT", "RIGHT", "RIGHT SIGNED", "NEGATE", "MOVE", "SWAP", "CUT"};
    private static final String[] RELATIONS = {
        "SAME", "ABOVE", "NOT BELOW", "MEET", "NOT SAME", "GREATER", "NOT LESS",
        "BELOW", "NOT ABOVE", "LESS", "NOT GREATER", "NOT MEET"};

    // The parameters bear the document's names, which no class file tells.
    private static final String[] CALLS = {
        "exact(i, c)", "any(i)", "bits(i, value, mask)", "bounds(i, least, greatest, signed)",
        "operate(into, operation, x, y, narrow)", "holds(relation, x, y, narrow)",
        "look(i, what)", "has(i, c)", "covers(i, other)"};

    // An ordinary answer of each call, and each way in which it refuses or throws.
    private static final Set<String> KINDS = Set.of(
            "exact true", "exact false", "any true", "any false", "bits true", "bits false",
            "bounds true", "bounds false", "operate true", "operate false", "holds true", "holds false",
            "look number", "look throws", "has true", "has false", "has throws",
            "covers true", "covers false", "covers throws");

    private final Set<String> kindsShown = new TreeSet<>();
    private RangeDesk desk;

    public static void main(String[] args) throws IOException {
        List<String> lines = Files.readAllLines(Path.of("README.md"));
        new ReadmeTest().examples(lines);
        calls(lines);
        CHECK.due("the operations", numbered(lines, "### The operations"), inOrder(OPERATIONS));
        CHECK.due("the relations", numbered(lines, "### The relations"), inOrder(RELATIONS));
        tests(lines);
        CHECK.end();
    }

    private void examples(List<String> lines) {
        boolean inside = false;
        for (String line : lines) {
            if (line.equals("```java")) {
                inside = true;
                desk = null;
            } else if (line.equals("```")) {
                inside = false;
            } else if (inside) {
                example(line);
            }
        }
        CHECK.due("README.md shows", kindsShown.toString(), new TreeSet<>(KINDS).toString());
    }

    private void example(String line) {
        if (line.equals(NEW_DESK)) {
            desk = new RangeDesk();
            return;
        }
        Matcher shown = SHOWN.matcher(line);
        if (!shown.matches()) {
            CHECK.report("README.md, no call with its answer: " + line);
        } else if (desk == null) {
            CHECK.report("README.md, a call without a desk: " + line);
        } else {
            String want = shown.group(3);
            CHECK.due("README.md, " + line, answer(shown.group(1), shown.group(2).split(", ")), want);
            kindsShown.add(shown.group(1) + " " + kind(want));
        }
    }

    private static String kind(String answer) {
        if (answer.startsWith("throws")) {
            return "throws";
        }
        return answer.equals("true") || answer.equals("false") ? answer : "number";
    }

    private String answer(String name, String[] written) {
        for (Method method : RangeDesk.class.getMethods()) {
            if (method.getName().equals(name) && method.getParameterCount() == written.length) {
                return answer(method, arguments(method.getParameterTypes(), written));
            }
        }
        return "no such call";
    }

    private String answer(Method method, Object[] arguments) {
        try {
            return String.valueOf(method.invoke(desk, arguments));
        } catch (InvocationTargetException e) {
            return "throws " + e.getCause().getClass().getSimpleName();
        } catch (IllegalAccessException e) {
            return "no public call";
        }
    }

    private static Object[] arguments(Class<?>[] types, String[] written) {
        Object[] arguments = new Object[written.length];
        for (int i = 0; i < written.length; i++) {
            if (types[i] == int.class) {
                arguments[i] = Integer.valueOf(written[i]);
            } else if (types[i] == long.class) {
                arguments[i] = Long.valueOf(written[i]);
            } else {
                // Boolean.valueOf takes any word that isn't true as false.
                CHECK.due("true or false", written[i].matches("true|false"), true);
                arguments[i] = Boolean.valueOf(written[i]);
            }
        }
        return arguments;
    }

    /** Each call of the face has its own row in the table of calls. */
    private static void calls(List<String> lines) {
        Set<String> face = new TreeSet<>();
        for (Method method : RangeDesk.class.getDeclaredMethods()) {
            if (Modifier.isPublic(method.getModifiers())) {
                face.add(method.getName());
            }
        }
        Set<String> named = new TreeSet<>();
        for (String call : CALLS) {
            named.add(call.substring(0, call.indexOf('(')));
            long rows = lines.stream().filter(line -> line.startsWith("| `" + call + "` | ")).count();
            CHECK.due("README.md, rows of " + call, rows, 1);
        }
        CHECK.due("the calls", named.toString(), face.toString());
    }

    /** What a table with rows of numbers and names says, in the order of the numbers. */
    private static String numbered(List<String> lines, String heading) {
        Map<Integer, String> names = new TreeMap<>();
        int first = lines.indexOf(heading) + 1;
        for (int i = first; i < lines.size() && !lines.get(i).startsWith("#"); i++) {
            Matcher row = NUMBERED.matcher(lines.get(i));
            if (first > 0 && row.matches()) {
                String[] keys = row.group(1).split(", ");
                String[] values = row.group(2).split(", ");
                CHECK.due("names in " + lines.get(i), values.length, keys.length);
                for (int k = 0; k < Math.min(keys.length, values.length); k++) {
                    names.put(Integer.valueOf(keys[k]), values[k]);
                }
            }
        }
        return names.toString();
    }

    private static String inOrder(String[] names) {
        Map<Integer, String> numbered = new TreeMap<>();
        for (int i = 0; i < names.length; i++) {
            numbered.put(i, names[i]);
        }
        return numbered.toString();
    }

    private static void tests(List<String> lines) throws IOException {
        String text = String.join("\n", lines);
        CHECK.due("README.md, how to run the tests", text.contains("```sh\n.ci/run\n```"), true);
        CHECK.due(".ci/run can be run", Files.isExecutable(Path.of(".ci/run")), true);
        try (Stream<Path> files = Files.list(Path.of("src/test/java"))) {
            for (Path file : (Iterable<Path>) files::iterator) {
                String name = file.getFileName().toString().replace(".java", "");
                CHECK.due("README.md names " + name, text.contains("`" + name + "`"), true);
            }
        }
    }
}
