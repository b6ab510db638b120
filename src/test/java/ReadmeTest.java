import java.io.IOException;
import java.lang.reflect.Method;
import java.nio.file.Files;
import java.nio.file.Path;
import java.util.ArrayList;
import java.util.List;
import java.util.regex.Matcher;
import java.util.regex.Pattern;
import java.util.stream.Stream;

/** What README.md says holds: its calls answer what is told behind them, and it names every test. */
public final class ReadmeTest {
    private static final Pattern CALL = Pattern.compile("isle\\.(\\w+)\\((.*?)\\);\\s*//\\s*(.*)");
    private static final Pattern ANSWER = Pattern.compile("(-?\\d+|true|false)\\b.*");

    public static void main(String[] args) throws IOException {
        String page = Files.readString(Path.of("README.md"));
        runs(javaLines(page));
        namesEveryTest(page);
        Checks.is("README.md tells of .ci/run", page.contains("\n.ci/run\n"), true);
        Checks.ends();
    }

    private static List<String> javaLines(String page) {
        List<String> lines = new ArrayList<>();
        boolean inside = false;
        for (String line : page.split("\n")) {
            if (line.startsWith("```")) {
                inside = line.equals("```java");
            } else if (inside) {
                lines.add(line);
            }
        }
        return lines;
    }

    private static void runs(List<String> lines) {
        Checks.is("README.md has calls", lines.size() > 5, true);
        HalfIsle isle = null;
        for (String line : lines) {
            if (line.equals("HalfIsle isle = new HalfIsle();")) {
                isle = new HalfIsle();
            } else {
                runs(isle, line);
            }
        }
    }

    private static void runs(HalfIsle isle, String line) {
        Matcher call = CALL.matcher(line);
        boolean told = call.matches();
        Checks.is("README.md, '" + line + "': is a call", told, true);
        if (!told) {
            return;
        }
        Object got = answer(isle, call.group(1), call.group(2));
        Matcher due = ANSWER.matcher(call.group(3));
        String want = due.matches() ? due.group(1) : "null";
        Checks.is("README.md, '" + line + "': " + got, String.valueOf(got).equals(want), true);
    }

    private static Object answer(HalfIsle isle, String name, String told) {
        String[] parts = told.isBlank() ? new String[0] : told.split(",\\s*");
        for (Method method : HalfIsle.class.getMethods()) {
            if (method.getName().equals(name) && method.getParameterCount() == parts.length) {
                return answer(isle, method, parts);
            }
        }
        return "no such call";
    }

    private static Object answer(HalfIsle isle, Method method, String[] parts) {
        Object[] given = new Object[parts.length];
        for (int i = 0; i < parts.length; i++) {
            boolean choice = method.getParameterTypes()[i] == boolean.class;
            given[i] = choice ? (Object) Boolean.valueOf(parts[i]) : (Object) Integer.decode(parts[i]);
        }
        try {
            return method.invoke(isle, given);
        } catch (ReflectiveOperationException e) {
            return e.getCause();
        }
    }

    private static void namesEveryTest(String page) throws IOException {
        try (Stream<Path> files = Files.list(Path.of("src", "test", "java"))) {
            for (Path file : files.sorted().toList()) {
                String name = file.getFileName().toString().replace(".java", "");
                Checks.is("README.md names " + name, page.contains("`" + name + "`"), true);
            }
        }
        Matcher named = Pattern.compile("`(\\w+Test)`").matcher(page);
        while (named.find()) {
            Path file = Path.of("src", "test", "java", named.group(1) + ".java");
            Checks.is("README.md names " + named.group(1) + ", which is there", Files.exists(file), true);
        }
    }
}
