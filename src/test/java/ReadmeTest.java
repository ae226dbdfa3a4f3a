import java.io.IOException;
import java.lang.reflect.Method;
import java.lang.reflect.Modifier;
import java.nio.file.Files;
import java.nio.file.Path;
import java.util.HashMap;
import java.util.List;
import java.util.Map;
import java.util.Set;
import java.util.TreeSet;
import java.util.regex.Matcher;
import java.util.regex.Pattern;

/** README.md tells the truth: its example, its calls and its settings. Run from the project's folder. */
public final class ReadmeTest {
    private static final Pattern EXAMPLE = Pattern.compile("(?s)```java\n(.*?)```");
    private static final Pattern LINE =
        Pattern.compile("(?:int (\\w+) = )?house\\.(\\w+)\\((.*)\\); +// (true|false|-?\\d+)\\b.*");
    private static final Pattern CALL_ROW = Pattern.compile("(?m)^\\| `(\\w+)\\((.*?)\\)` \\|");
    private static final Pattern SETTING_ROW =
        Pattern.compile("(?m)^\\| (\\d) \\| (\\w+) \\| (\\d) \\.\\. (\\d) \\| (\\d) \\|");

    private static final Check check = new Check("ReadmeTest");

    public static void main(String[] args) throws IOException, ReflectiveOperationException {
        String readme = Files.readString(Path.of("README.md"));
        example(readme);
        calls(readme);
        settings(readme);
        check.finish();
    }

    private static void example(String readme) throws ReflectiveOperationException {
        Matcher block = EXAMPLE.matcher(readme);
        boolean found = block.find();
        check.due("there is an example", found, true);
        if (!found) {
            return;
        }
        BasketHouse house = new BasketHouse();
        Map<String, Integer> names = new HashMap<>();
        for (String line : block.group(1).split("\n")) {
            if (!line.isEmpty() && !line.equals("BasketHouse house = new BasketHouse();")) {
                exampleLine(house, names, line);
            }
        }
    }

    private static void exampleLine(BasketHouse house, Map<String, Integer> names, String line)
            throws ReflectiveOperationException {
        Matcher told = LINE.matcher(line);
        boolean matches = told.matches();
        check.due("a call with its answer: " + line, matches, true);
        if (!matches) {
            return;
        }
        Object got = call(house, names, told.group(2), told.group(3));
        check.due(line + " answered " + got, got.toString().equals(told.group(4)), true);
        if (told.group(1) != null) {
            names.put(told.group(1), (Integer) got);
        }
    }

    private static Object call(BasketHouse house, Map<String, Integer> names, String name, String arguments)
            throws ReflectiveOperationException {
        for (Method method : face()) {
            if (method.getName().equals(name)) {
                return method.invoke(house, values(names, arguments));
            }
        }
        return "no such call";
    }

    private static Object[] values(Map<String, Integer> names, String arguments) {
        if (arguments.isEmpty()) {
            return new Object[0];
        }
        return List.of(arguments.split(", ")).stream().map(text -> value(names, text)).toArray();
    }

    /** A truth, a number, a name, or a set written as 1 << name | 1 << name. */
    private static Object value(Map<String, Integer> names, String text) {
        if (text.equals("true") || text.equals("false")) {
            return Boolean.valueOf(text);
        }
        if (!text.startsWith("1 << ")) {
            return number(names, text);
        }
        int set = 0;
        for (String part : text.split(" \\| ")) {
            set |= 1 << number(names, part.substring("1 << ".length()));
        }
        return set;
    }

    private static int number(Map<String, Integer> names, String text) {
        return names.containsKey(text) ? names.get(text) : Integer.parseInt(text);
    }

    private static List<Method> face() {
        return List.of(BasketHouse.class.getDeclaredMethods()).stream()
            .filter(method -> Modifier.isPublic(method.getModifiers())).toList();
    }

    private static void calls(String readme) {
        Set<String> due = new TreeSet<>();
        face().forEach(method -> due.add(method.getName() + " of " + method.getParameterCount()));
        Set<String> told = new TreeSet<>();
        Matcher row = CALL_ROW.matcher(readme);
        while (row.find()) {
            int many = row.group(2).isEmpty() ? 0 : row.group(2).split(", ").length;
            check.due(row.group(1) + " stands once", told.add(row.group(1) + " of " + many), true);
        }
        check.due("the calls " + told + ", not " + due, told.equals(due), true);
    }

    private static void settings(String readme) {
        Matcher row = SETTING_ROW.matcher(readme);
        int rows = 0;
        while (row.find()) {
            int what = Integer.parseInt(row.group(1));
            int least = Integer.parseInt(row.group(3));
            int most = Integer.parseInt(row.group(4));
            BasketHouse house = new BasketHouse();
            check.due(row.group(2) + " at first", Integer.parseInt(row.group(5)), house.look(3 + what));
            for (int v = least - 1; v <= most + 1; v++) {
                check.due(row.group(2) + " may be " + v, v >= least && v <= most, house.set(what, v));
            }
            rows++;
        }
        check.due("settings", rows, 4);
    }
}
