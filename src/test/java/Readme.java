import java.io.IOException;
import java.lang.reflect.InvocationTargetException;
import java.lang.reflect.Method;
import java.lang.reflect.Modifier;
import java.nio.file.Files;
import java.nio.file.Path;
import java.util.ArrayList;
import java.util.List;
import java.util.Map;
import java.util.Set;
import java.util.TreeMap;
import java.util.TreeSet;
import java.util.regex.Matcher;
import java.util.regex.Pattern;

/**
 * Each call in README.md answers as README.md says, one after the other on one object; and what README.md
 * tells of the arguments is so. The document's path is the argument.
 */
final class Readme {
    private static final Path PAGE = Path.of("README.md");
    private static final String MADE = "Cubequarry quarry = new Cubequarry();";
    /** Behind a call its answer, then, if there is more to say, a colon and that. */
    private static final Pattern CALL =
            Pattern.compile("quarry\\.(\\w+)\\(([^)]*)\\); +// (\"[^\"]*\"|throws \\w+|-?\\w+)(: .+)?");
    private static final int MOST_CALLS = 512;

    private static final Map<String, Method> METHODS = new TreeMap<>();

    private Readme() {
    }

    /** The lines of all pieces of Java. */
    private static List<String> lines() throws IOException {
        List<String> lines = new ArrayList<>();
        boolean isJava = false;
        for (String line : Files.readAllLines(PAGE)) {
            if (line.startsWith("```")) {
                isJava = line.equals("```java");
            } else if (isJava) {
                lines.add(line);
            }
        }
        return lines;
    }

    private static Object[] arguments(Method method, String written) {
        String[] parts = written.isEmpty() ? new String[0] : written.split(", ");
        Object[] arguments = new Object[parts.length];
        for (int i = 0; i < parts.length; i++) {
            boolean isTruth = method.getParameterTypes()[i] == boolean.class;
            arguments[i] = isTruth ? (Object) Boolean.valueOf(parts[i]) : (Object) Integer.valueOf(parts[i]);
        }
        return arguments;
    }

    /** As README.md writes an answer. */
    static String answer(Cubequarry quarry, Method method, String written) throws IllegalAccessException {
        try {
            Object answer = method.invoke(quarry, arguments(method, written));
            return answer instanceof String ? "\"" + answer + "\"" : String.valueOf(answer);
        } catch (InvocationTargetException e) {
            return "throws " + e.getCause().getClass().getSimpleName();
        }
    }

    private static void ask(List<String> lines) throws IllegalAccessException {
        Cubequarry quarry = new Cubequarry();
        Set<String> called = new TreeSet<>();
        int calls = 0;
        for (String line : lines) {
            if (line.equals(MADE)) {
                continue;
            }
            Matcher call = CALL.matcher(line);
            boolean isCall = call.matches() && METHODS.containsKey(call.group(1));
            Check.is("\"" + line + "\" is a call with its answer", isCall, true);
            if (isCall) {
                Method method = METHODS.get(call.group(1));
                Check.is(line, answer(quarry, method, call.group(2)), call.group(3));
                called.add(call.group(1));
                calls++;
            }
        }
        Check.is("each method is called", called, METHODS.keySet());
        Check.is("not more calls than are let", calls <= MOST_CALLS, true);
    }

    /** Each exception that a method may throw is told of, and is thrown by one of the calls. */
    private static void exceptions(String page) {
        Set<String> names = new TreeSet<>();
        for (Method method : METHODS.values()) {
            for (Class<?> thrown : method.getExceptionTypes()) {
                names.add(thrown.getSimpleName());
            }
        }
        for (String name : names) {
            Check.is(name + " is told of", page.contains("- `" + name + "`: "), true);
            Check.is(name + " is thrown", page.contains("// throws " + name), true);
        }
    }

    /** It names each test that .ci/run runs. */
    private static void tests(String page) throws IOException {
        Matcher run = Pattern.compile("for test in ([\\w ]+); do").matcher(Files.readString(Path.of(".ci/run")));
        Check.is(".ci/run runs tests", run.find(), true);
        for (String test : run.group(1).split(" ")) {
            Check.is(test + " is told of", page.contains("- `" + test + "`: "), true);
        }
    }

    public static void main(String[] args) throws IOException, IllegalAccessException {
        for (Method method : Cubequarry.class.getDeclaredMethods()) {
            if (Modifier.isPublic(method.getModifiers())) {
                METHODS.put(method.getName(), method);
            }
        }
        Check.place("README.md");
        String page = Files.readString(PAGE);
        List<String> lines = lines();
        Check.is("how an object is made stands first", lines.get(0), MADE);
        Check.is("for how many calls it is used", page.contains("at most " + MOST_CALLS + " calls"), true);
        ask(lines);
        exceptions(page);
        ReadmeTable.ask(page, Path.of(args[0]), METHODS);
        tests(page);
        Check.done("Readme");
    }
}
