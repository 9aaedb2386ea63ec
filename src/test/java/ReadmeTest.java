import java.io.IOException;
import java.lang.reflect.Method;
import java.lang.reflect.Modifier;
import java.net.URL;
import java.net.URLClassLoader;
import java.nio.file.Files;
import java.nio.file.Path;
import java.util.Arrays;
import java.util.HashMap;
import java.util.List;
import java.util.Map;
import java.util.Set;
import java.util.TreeSet;
import java.util.function.Supplier;
import java.util.regex.Matcher;
import java.util.regex.Pattern;
import javax.tools.ToolProvider;

/** Holds README.md against the class: its examples are compiled and run, each answer that it shows is asked for. */
public final class ReadmeTest {
    private static final Pattern EXAMPLE = Pattern.compile("(?ms)^```java\n(.*?)^```$");
    private static final Pattern ANSWER = Pattern.compile("(ship\\.\\w+\\(.*?\\)); +// (-?\\d+): .*");
    private static final Pattern ROW = Pattern.compile("(?m)^\\| (BAD|NO|FULL)\\b[^|]*\\| (-\\d+) \\| (.*) \\|$");
    private static final Pattern NAME = Pattern.compile("`(\\w+)`");
    private static final int EXAMPLES = 5;
    private static final Map<String, Call> BAD_CALLS = badCalls();
    private static final Map<String, Call> NO_CALLS = Map.of("rock", Call.of("rock", 5), "feed", Call.of("feed", 0),
        "undo", Call.of("undo"), "from", Call.of("from", 0));
    private static final Map<String, Call> FULL_CALLS = Map.of("rock", Call.of("rock", 59),
        "hand", Call.of("hand", 0, 0, 0), "seen", Call.of("seen", 0, 0), "type", Call.of("type", 32));

    private static final Check check = new Check();

    public static void main(String[] args) throws ReflectiveOperationException, IOException {
        Path root = Path.of(args[0]).resolve("../../../..").normalize();
        String page = Files.readString(root.resolve("README.md"));
        refusals(page);
        for (Object[] shown : answersOf(programOf(page))) {
            check.due("README: " + shown[0], ((Number) shown[1]).longValue(), ((Number) shown[2]).longValue());
        }
        check.end();
    }

    /** The rows of what is answered where a call is refused: each call once for each reason, and none left out. */
    private static void refusals(String page) {
        Map<String, Set<String>> told = new HashMap<>();
        Matcher row = ROW.matcher(page);
        while (row.find()) {
            String reason = row.group(1);
            Matcher name = NAME.matcher(row.group(3));
            while (name.find()) {
                boolean isNew = told.computeIfAbsent(reason, r -> new TreeSet<>()).add(name.group(1));
                check.holds("README: " + name.group(1) + " is told once as " + reason, isNew);
                refused(reason, name.group(1), Long.parseLong(row.group(2)));
            }
        }
        check.holds("README: all that may be BAD: " + told.get("BAD"), BAD_CALLS.keySet().equals(told.get("BAD")));
        check.holds("README: all that may be NO: " + told.get("NO"), NO_CALLS.keySet().equals(told.get("NO")));
        check.holds("README: all that may be FULL: " + told.get("FULL"), FULL_CALLS.keySet().equals(told.get("FULL")));
    }

    private static void refused(String reason, String name, long answer) {
        SleepyHelm x = new SleepyHelm();
        Map<String, Call> calls = BAD_CALLS;
        if (reason.equals("NO")) {
            refusing(x);
            calls = NO_CALLS;
        } else if (reason.equals("FULL")) {
            Ships.full(x);
            calls = FULL_CALLS;
        }
        Call call = calls.get(name);
        check.holds("README: " + name + " may be " + reason, call != null);
        if (call != null) {
            check.due("README: " + call + " as " + reason, call.on(x), answer);
        }
    }

    /** Every call that takes a number: the least there is is BAD in every place. */
    private static Map<String, Call> badCalls() {
        Map<String, Call> calls = new HashMap<>();
        for (Method m : SleepyHelm.class.getDeclaredMethods()) {
            if (Modifier.isPublic(m.getModifiers()) && m.getParameterCount() > 0) {
                int[] numbers = new int[m.getParameterCount()];
                Arrays.fill(numbers, Integer.MIN_VALUE);
                calls.put(m.getName(), Call.of(m.getName(), numbers));
            }
        }
        return calls;
    }

    /** A ship that refuses each of NO_CALLS: the second of the crew comes so that the peas can not be undone. */
    private static void refusing(SleepyHelm x) {
        x.rock(5);
        x.hand(Ships.PLAIN, 9, 1);
        x.feed(0);
        x.hand(Ships.PLAIN, 9, 1);
    }

    /** All examples, each in braces of its own, so that none leans on another. */
    private static String programOf(String page) {
        String rows = "java.util.List<Object[]>";
        StringBuilder program = new StringBuilder();
        program.append("public final class Shown implements java.util.function.Supplier<" + rows + "> {\n");
        program.append("public " + rows + " get() {\n" + rows + " shown = new java.util.ArrayList<>();\n");
        Matcher example = EXAMPLE.matcher(page);
        int examples = 0;
        while (example.find()) {
            program.append("{\n");
            example.group(1).lines().forEach(line -> program.append(asked(line)).append('\n'));
            program.append("}\n");
            examples++;
        }
        check.due("README: examples", examples, EXAMPLES);
        return program.append("return shown;\n}\n}\n").toString();
    }

    /** A line that shows an answer is turned into one that keeps the call, what it answers, and what is shown. */
    private static String asked(String line) {
        Matcher answer = ANSWER.matcher(line);
        if (answer.matches()) {
            String call = answer.group(1);
            return "shown.add(new Object[] {\"" + call + "\", " + call + ", " + answer.group(2) + "L});";
        }
        check.holds("README: \"" + line + "\" shows an answer", !line.startsWith("ship."));
        return line;
    }

    private static List<Object[]> answersOf(String program) throws ReflectiveOperationException, IOException {
        Path place = Files.createTempDirectory("readme");
        Path source = place.resolve("Shown.java");
        Path compiled = place.resolve("Shown.class");
        try (URLClassLoader loader = new URLClassLoader(new URL[] {place.toUri().toURL()})) {
            Files.writeString(source, program);
            int exit = ToolProvider.getSystemJavaCompiler().run(null, null, null, "-cp",
                System.getProperty("java.class.path"), "-d", place.toString(), source.toString());
            if (exit != 0) {
                throw new AssertionError("README: its examples do not compile");
            }
            Supplier<?> shown = (Supplier<?>) loader.loadClass("Shown").getDeclaredConstructor().newInstance();
            return ((List<?>) shown.get()).stream().map(row -> (Object[]) row).toList();
        } finally {
            Files.deleteIfExists(compiled);
            Files.deleteIfExists(source);
            Files.deleteIfExists(place);
        }
    }
}
