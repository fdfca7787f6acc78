import java.io.IOException;
import java.lang.reflect.InvocationTargetException;
import java.lang.reflect.Method;
import java.lang.reflect.Modifier;
import java.nio.file.Files;
import java.nio.file.Path;
import java.util.ArrayList;
import java.util.HashMap;
import java.util.List;
import java.util.Map;
import java.util.Set;
import java.util.TreeSet;
import java.util.regex.Matcher;
import java.util.regex.Pattern;

/**
 * README.md holds what it says: its examples are read and called line by line, the answer that is due
 * being what the line's comment begins with; and it names every call of the face and no other.
 */
public final class ReadmeTest {
    private static final Pattern LINE =
        Pattern.compile("(?:int (\\w+) = )?x\\.(\\w+)\\((.*?)\\);(?:\\s*// (.*))?");
    private static final Pattern DUE = Pattern.compile("(throws \\w+|-?\\w+).*");
    private static final Pattern NAMED = Pattern.compile("`(\\w+)\\(");

    private static int wrong = 0;
    private static int checked = 0;

    private static void due(String what, String got, String want) {
        checked++;
        if (!got.equals(want)) {
            wrong++;
            System.out.println(what + ": answered " + got + ", due is " + want);
        }
    }

    private static List<List<String>> examples(List<String> readme) {
        List<List<String>> all = new ArrayList<>();
        List<String> open = null;
        for (String line : readme) {
            if (line.equals("```java")) {
                open = new ArrayList<>();
                all.add(open);
            } else if (line.equals("```")) {
                open = null;
            } else if (open != null) {
                open.add(line);
            }
        }
        return all;
    }

    private static Set<String> face() {
        Set<String> names = new TreeSet<>();
        for (Method method : NeededLists.class.getDeclaredMethods()) {
            if (Modifier.isPublic(method.getModifiers())) {
                names.add(method.getName());
            }
        }
        return names;
    }

    private static Method method(String name) {
        for (Method method : NeededLists.class.getDeclaredMethods()) {
            if (Modifier.isPublic(method.getModifiers()) && method.getName().equals(name)) {
                return method;
            }
        }
        throw new IllegalStateException("README.md calls " + name + ", which is not there");
    }

    /** A number, the name of a list, or a sum of these. */
    private static long value(String text, Map<String, Long> names) {
        long sum = 0;
        for (String part : text.split("\\+")) {
            Long named = names.get(part.trim());
            sum += named != null ? named : Long.parseLong(part.trim());
        }
        return sum;
    }

    private static Object[] arguments(Method method, String text, Map<String, Long> names) {
        Class<?>[] types = method.getParameterTypes();
        String[] parts = text.isEmpty() ? new String[0] : text.split(",");
        if (parts.length != types.length) {
            throw new IllegalStateException("README.md calls " + method.getName() + " with (" + text + ")");
        }
        Object[] values = new Object[parts.length];
        for (int p = 0; p < parts.length; p++) {
            if (types[p] == boolean.class) {
                values[p] = Boolean.valueOf(parts[p].trim());
            } else if (types[p] == int.class) {
                values[p] = (int) value(parts[p], names);
            } else {
                values[p] = value(parts[p], names);
            }
        }
        return values;
    }

    private static String answer(NeededLists x, Method method, Object[] values) throws IllegalAccessException {
        try {
            return String.valueOf(method.invoke(x, values));
        } catch (InvocationTargetException e) {
            return "throws " + e.getCause().getClass().getSimpleName();
        }
    }

    private static void runExample(List<String> lines) throws IllegalAccessException {
        NeededLists x = new NeededLists();
        Map<String, Long> names = new HashMap<>();
        for (String line : lines) {
            if (line.equals("NeededLists x = new NeededLists();")) {
                continue;
            }
            Matcher call = LINE.matcher(line);
            if (!call.matches()) {
                throw new IllegalStateException("README.md has a line of another form: " + line);
            }
            Method method = method(call.group(2));
            String got = answer(x, method, arguments(method, call.group(3), names));
            if (call.group(1) != null) {
                names.put(call.group(1), Long.valueOf(got));
            } else if (call.group(4) != null) {
                Matcher want = DUE.matcher(call.group(4));
                due(line, got, want.matches() ? want.group(1) : "nothing");
            }
        }
    }

    private static Set<String> named(List<String> readme) {
        Set<String> names = new TreeSet<>();
        for (String line : readme) {
            Matcher call = NAMED.matcher(line);
            while (call.find()) {
                names.add(call.group(1));
            }
        }
        return names;
    }

    public static void main(String[] args) throws IOException, IllegalAccessException {
        List<String> readme = Files.readAllLines(Path.of("README.md"));
        for (List<String> example : examples(readme)) {
            runExample(example);
        }
        due("examples with an answer", String.valueOf(checked > 0), "true");
        due("calls that README.md names", named(readme).toString(), face().toString());
        System.out.println(wrong == 0 ? "all answers are as due" : wrong + " answers are not as due");
        if (wrong != 0) {
            System.exit(1);
        }
    }
}
