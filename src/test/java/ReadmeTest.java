import java.io.IOException;
import java.lang.reflect.InvocationTargetException;
import java.lang.reflect.Method;
import java.lang.reflect.Modifier;
import java.nio.file.Files;
import java.nio.file.Path;
import java.util.List;
import java.util.Set;
import java.util.TreeSet;
import java.util.regex.Matcher;
import java.util.regex.Pattern;
import java.util.stream.Collectors;
import java.util.stream.Stream;

/** README.md says how to use the class and how to run its tests, and what it says is so. */
public final class ReadmeTest {
    private static final Due D = new Due();
    private static final Pattern CALL = Pattern.compile("x\\.(\\w+)\\(([^)]*)\\); *// (-?\\w+)(?:: .*)?");

    public static void main(String[] args) throws IOException, IllegalAccessException {
        List<String> lines = Files.readAllLines(Path.of("README.md"));
        examples(lines);
        callsNamed(String.join("\n", lines));
        testsNamed(String.join("\n", lines));
        D.close("ReadmeTest");
    }

    /** Each example of calls, on a new object where it makes one. */
    private static void examples(List<String> lines) throws IllegalAccessException {
        AllAboveIt x = null;
        boolean inside = false;
        int calls = 0;
        for (String line : lines) {
            if (line.startsWith("```")) {
                inside = line.equals("```java");
            } else if (inside && line.equals("AllAboveIt x = new AllAboveIt();")) {
                x = new AllAboveIt();
            } else if (inside) {
                Matcher m = CALL.matcher(line);
                boolean read = m.matches() && x != null;
                D.due("a call with its answer: " + line, read, true);
                if (read) {
                    D.due(line, answer(x, m.group(1), m.group(2)), m.group(3));
                    calls++;
                }
            }
        }
        D.due("there are examples", calls >= 20, true);
    }

    private static String answer(AllAboveIt x, String name, String told) throws IllegalAccessException {
        String[] numbers = told.isEmpty() ? new String[0] : told.split(", ");
        Object[] arguments = new Object[numbers.length];
        for (int k = 0; k < numbers.length; k++) {
            arguments[k] = Integer.decode(numbers[k]);
        }
        for (Method m : face()) {
            if (m.getName().equals(name) && m.getParameterCount() == numbers.length) {
                try {
                    return String.valueOf(m.invoke(x, arguments));
                } catch (InvocationTargetException e) {
                    return e.getCause().getClass().getSimpleName();
                }
            }
        }
        return "no such call";
    }

    private static List<Method> face() {
        return Stream.of(AllAboveIt.class.getDeclaredMethods())
            .filter(m -> Modifier.isPublic(m.getModifiers())).collect(Collectors.toList());
    }

    private static void callsNamed(String page) {
        Set<String> named = new TreeSet<>();
        Matcher m = Pattern.compile("`(\\w+)\\(([^)`]*)\\)`").matcher(page);
        while (m.find()) {
            named.add(m.group(1) + " " + (m.group(2).isEmpty() ? 0 : m.group(2).split(", ").length));
        }
        for (Method one : face()) {
            D.due("the page names " + one, named.contains(one.getName() + " " + one.getParameterCount()), true);
        }
        D.due("the page names as many calls as there are", named.size(), face().size());
    }

    private static void testsNamed(String page) throws IOException {
        Set<String> there = new TreeSet<>();
        try (Stream<Path> files = Files.list(Path.of("src/test/java"))) {
            files.map(p -> p.getFileName().toString()).filter(n -> n.endsWith("Test.java"))
                .forEach(n -> there.add(n.replace(".java", "")));
        }
        Set<String> named = new TreeSet<>();
        Matcher m = Pattern.compile("(?m)^\\| `(\\w+Test)` \\|").matcher(page);
        while (m.find()) {
            named.add(m.group(1));
        }
        D.due("the tests named", named.toString(), there.toString());
        D.due("how to run them", page.contains("\n    bash .ci/run\n"), true);
    }
}
