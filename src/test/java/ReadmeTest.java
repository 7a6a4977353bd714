import java.io.IOException;
import java.lang.reflect.InvocationTargetException;
import java.lang.reflect.Method;
import java.nio.file.Files;
import java.nio.file.Path;
import java.util.ArrayList;
import java.util.Arrays;
import java.util.LinkedHashSet;
import java.util.List;
import java.util.Set;
import java.util.TreeSet;
import java.util.regex.Matcher;
import java.util.regex.Pattern;

/** README.md tells of the class what is so: each call in its group, what it throws, and what the examples answer. */
final class ReadmeTest {
    /** The groups as the document lists them. */
    private static final String[][] GROUPS = {
        {"### Tackle", "setWeight", "setFriction", "setLength", "addPulley", "takePulley", "setEnd", "haul", "letOut"},
        {"### Values", "block", "pulley", "force", "pull", "value", "work", "entry"},
        {"### What if", "first", "forceForAll", "pulleysFor", "bestEnd", "swapped", "riseBy", "efficiency"},
        {"### Text", "append", "clearText", "parse"},
        {"### State", "undo", "digest"},
    };
    private static final Pattern CALL_ROW = Pattern.compile("\\| `(\\w+ (\\w+)\\((.*?)\\))` \\|(.*)\\|(.*)\\|");
    private static final Pattern EXCEPTION = Pattern.compile("\\w+Exception");
    private static final Pattern EXAMPLE = Pattern.compile("tackle\\.(\\w+)\\((.*)\\); +// (throws \\w+|[-\\w.]+)(: .*)?");
    private static final String NEW_TACKLE = "RopeTackle tackle = new RopeTackle();";
    private static final Check check = new Check();

    public static void main(String[] args) throws IOException, IllegalAccessException {
        List<String> lines = Files.readAllLines(Path.of("README.md"));
        for (String[] group : GROUPS) {
            List<String> section = section(lines, group[0]);
            rows(group, section);
            examples(group, section);
        }
        constants(section(lines, "### The constants"));
        check.holds("the constructor stands there",
            section(lines, "### The constructor").stream().anyMatch(line -> line.startsWith("| `RopeTackle()` |")));
        tests(lines);
        check.end();
    }

    /** The lines below a heading, up to the next one. */
    private static List<String> section(List<String> lines, String heading) {
        int start = lines.indexOf(heading);
        check.holds("the heading '" + heading + "' stands there", start >= 0);
        int end = start + 1;
        while (end < lines.size() && !lines.get(end).startsWith("#")) {
            end++;
        }
        return lines.subList(start + 1, end);
    }

    private static Method method(String name) {
        for (Method method : RopeTackle.class.getMethods()) {
            if (method.getDeclaringClass() == RopeTackle.class && method.getName().equals(name)) {
                return method;
            }
        }
        throw new AssertionError("README.md tells of " + name + ", which the class has not");
    }

    /** The rows of a group are its calls in their order, each with its types and its exceptions. */
    private static void rows(String[] group, List<String> section) {
        List<String> told = new ArrayList<>();
        for (String line : section) {
            Matcher row = CALL_ROW.matcher(line);
            if (row.matches()) {
                Method method = method(row.group(2));
                told.add(method.getName());
                check.holds(row.group(1) + " has the types of " + method, row.group(1).replaceAll("(int|boolean) \\w+(,|\\))", "$1$2")
                    .equals(signature(method)));
                check.holds("the exceptions of " + row.group(1) + " are told in their order",
                    exceptions(row.group(5)).equals(exceptions(Arrays.toString(method.getExceptionTypes()))));
            }
        }
        check.holds("the calls of '" + group[0] + "' are told in their order: " + told,
            told.equals(Arrays.asList(group).subList(1, group.length)));
    }

    private static String signature(Method method) {
        StringBuilder text = new StringBuilder(method.getReturnType() + " " + method.getName() + "(");
        for (Class<?> type : method.getParameterTypes()) {
            text.append(text.charAt(text.length() - 1) == '(' ? "" : ", ").append(type);
        }
        return text.append(")").toString();
    }

    private static List<String> exceptions(String text) {
        Set<String> names = new LinkedHashSet<>();
        Matcher matcher = EXCEPTION.matcher(text);
        while (matcher.find()) {
            names.add(matcher.group());
        }
        return new ArrayList<>(names);
    }

    /** Makes the calls of the examples; each call of the group is among them. */
    private static void examples(String[] group, List<String> section) throws IllegalAccessException {
        Set<String> called = new TreeSet<>();
        RopeTackle tackle = null;
        boolean inside = false;
        for (String line : section) {
            if (line.startsWith("```")) {
                inside = line.equals("```java");
            } else if (inside && line.equals(NEW_TACKLE)) {
                tackle = new RopeTackle();
            } else if (inside) {
                Matcher example = EXAMPLE.matcher(line);
                boolean callable = example.matches() && tackle != null;
                check.holds("'" + line + "' is an example that can be called", callable);
                if (callable) {
                    called.add(example.group(1));
                    String got = answer(tackle, method(example.group(1)), example.group(2));
                    String due = example.group(3).equals("NONE") ? "" + RopeTackle.NONE : example.group(3);
                    check.holds("'" + line + "', which answered " + got + ",", got.equals(due));
                }
            }
        }
        for (String name : Arrays.asList(group).subList(1, group.length)) {
            check.holds(name + " has an example in '" + group[0] + "'", called.contains(name));
        }
    }

    private static String answer(RopeTackle tackle, Method method, String arguments) throws IllegalAccessException {
        List<Object> values = new ArrayList<>();
        for (String argument : arguments.isEmpty() ? new String[0] : arguments.split(", ")) {
            values.add(value(argument));
        }
        try {
            return "" + method.invoke(tackle, values.toArray());
        } catch (InvocationTargetException e) {
            return "throws " + e.getCause().getClass().getSimpleName();
        }
    }

    private static Object value(String argument) {
        if (argument.startsWith("'")) {
            return (int) argument.charAt(1);
        }
        if (argument.equals("true") || argument.equals("false")) {
            return Boolean.valueOf(argument);
        }
        return Integer.valueOf(argument);
    }

    private static void constants(List<String> section) {
        check.holds("NONE is told", section.stream().anyMatch(line -> line.startsWith("| `NONE` | " + RopeTackle.NONE + " |")));
        check.holds("BEAM is told", section.stream().anyMatch(line -> line.startsWith("| `BEAM` | " + RopeTackle.BEAM + " |")));
    }

    /** Each test of the project stands in the list of the tests, and no other. */
    private static void tests(List<String> lines) throws IOException {
        Set<String> told = new TreeSet<>();
        for (String line : section(lines, "## Running the tests")) {
            if (line.matches("\\| `\\w+Test` \\|.*")) {
                told.add(line.substring(3, line.indexOf('`', 3)));
            }
        }
        Set<String> due = new TreeSet<>();
        try (var files = Files.list(Path.of("src/test/java"))) {
            files.map(file -> file.getFileName().toString()).filter(name -> name.endsWith("Test.java"))
                .forEach(name -> due.add(name.substring(0, name.length() - ".java".length())));
        }
        check.holds("the tests that are told " + told + " are those that there are", told.equals(due));
    }
}
