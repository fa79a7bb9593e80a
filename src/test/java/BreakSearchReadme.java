import java.io.File;
import java.lang.reflect.Method;
import java.nio.file.Files;
import java.nio.file.Path;
import java.util.ArrayList;
import java.util.List;
import java.util.regex.Matcher;
import java.util.regex.Pattern;

/** What README.md says of using the class and of its tests has to hold as it stands there. */
public final class BreakSearchReadme {
    private static final Path README = Path.of("README.md");
    private static final Pattern MADE = Pattern.compile("BreakSearch x = new BreakSearch\\((-?\\d+)\\);\\s+//.*");
    private static final Pattern CALL = Pattern.compile("x\\.(\\w+)\\((.*)\\);\\s+// (-?\\d+)(:.*)?");

    private static int wrong = 0;

    private static void hold(String what, boolean holds) {
        if (!holds) {
            wrong++;
            System.out.println("README.md: " + what);
        }
    }

    private static List<String> example(String text) {
        List<String> lines = new ArrayList<>();
        boolean inside = false;
        for (String line : text.split("\n")) {
            if (line.startsWith("```")) {
                inside = line.equals("```java");
            } else if (inside) {
                lines.add(line);
            }
        }
        return lines;
    }

    private static void exampleHolds(List<String> lines) throws Exception {
        Matcher made = MADE.matcher(lines.isEmpty() ? "" : lines.get(0));
        if (!made.matches()) {
            hold("an example begins with a new object", false);
            return;
        }
        BreakSearch x = new BreakSearch(Integer.parseInt(made.group(1)));
        List<String> called = new ArrayList<>();
        for (String line : lines.subList(1, lines.size())) {
            Matcher call = CALL.matcher(line);
            if (!call.matches()) {
                hold("no call with its answer: " + line, false);
                return;
            }
            called.add(call.group(1));
            long got = answer(x, call.group(1), call.group(2));
            hold("answered " + got + ": " + line, got == Long.parseLong(call.group(3)));
        }
        for (Method m : BreakSearch.class.getMethods()) {
            boolean itsOwn = m.getDeclaringClass() == BreakSearch.class;
            hold("the example has no " + m.getName() + "()", !itsOwn || called.contains(m.getName()));
        }
    }

    private static long answer(BreakSearch x, String name, String arguments) throws Exception {
        String[] parts = arguments.isEmpty() ? new String[0] : arguments.split(", ");
        Class<?>[] types = new Class<?>[parts.length];
        Object[] values = new Object[parts.length];
        for (int i = 0; i < parts.length; i++) {
            boolean isTruth = parts[i].equals("true") || parts[i].equals("false");
            types[i] = isTruth ? boolean.class : int.class;
            values[i] = isTruth ? (Object) Boolean.valueOf(parts[i]) : (Object) Integer.valueOf(parts[i]);
        }
        return ((Number) BreakSearch.class.getMethod(name, types).invoke(x, values)).longValue();
    }

    private static void testsHold(String text) {
        hold("the script that it names is not there to be run", text.contains("    .ci/run\n") && Files.isExecutable(Path.of(".ci/run")));
        List<String> there = new ArrayList<>();
        for (File test : new File("src/test/java").listFiles()) {
            String name = test.getName().replace(".java", "");
            there.add(name);
            hold("its table has no " + name, text.contains("\n| `" + name + "` |"));
        }
        Matcher named = Pattern.compile("\n\\| `(BreakSearch\\w+)` \\|").matcher(text);
        while (named.find()) {
            hold("there is no test " + named.group(1), there.contains(named.group(1)));
        }
    }

    public static void main(String[] args) throws Exception {
        String text = Files.readString(README);
        exampleHolds(example(text));
        testsHold(text);
        System.out.println(wrong == 0 ? "README.md holds" : wrong + " things do not hold");
        if (wrong != 0) {
            System.exit(1);
        }
    }
}
