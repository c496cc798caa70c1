import java.io.IOException;
import java.lang.reflect.Method;
import java.nio.file.Files;
import java.nio.file.Path;
import java.util.ArrayList;
import java.util.List;
import java.util.Map;
import java.util.Set;
import java.util.TreeMap;
import java.util.TreeSet;
import java.util.regex.Matcher;
import java.util.regex.Pattern;

/** The table in README.md: which arguments are let, and which methods throw more than for a cell's number. */
final class ReadmeTable {
    private static final Pattern ROW = Pattern.compile("\\| `(\\w+)\\(([^)]*)\\)` \\| ([^|]*)\\| ([^|]*)\\|");
    private static final Pattern RANGE = Pattern.compile("(\\w+) (-?\\d+) to (-?\\d+)(, and eight times these)?");
    private static final Pattern LAST_END = Pattern.compile("from \\+ many up to (\\d+)");
    private static final Set<String> CELLS = Set.of("cell", "into", "one", "other");
    private static final String NOT_LET = "throws IllegalArgumentException";

    private final Method method;
    private final List<String> names;
    /** What is given as an argument, if it is not the one that is looked at (0, if nothing stands here). */
    private final Map<String, Integer> let = new TreeMap<>();

    private ReadmeTable(Method method, List<String> names) {
        this.method = method;
        this.names = names;
    }

    /** The names of each method's arguments, as the document's face has them. */
    private static Map<String, List<String>> names(Path document) throws IOException {
        Map<String, List<String>> names = new TreeMap<>();
        Matcher told = Pattern.compile("    public \\w+ (\\w+)\\(([^)]*)\\)").matcher(Files.readString(document));
        while (told.find()) {
            String written = told.group(2).replaceAll("(int|boolean) ", "");
            names.put(told.group(1), written.isEmpty() ? List.of() : List.of(written.split(", ")));
        }
        return names;
    }

    /** On a new object, so an IllegalStateException is none that the arguments alone bring. */
    private void probe(String name, int value, String due) throws IllegalAccessException {
        Map<String, Integer> given = new TreeMap<>(let);
        given.put(name, value);
        List<String> written = new ArrayList<>();
        for (Class<?> type : method.getParameterTypes()) {
            int number = given.getOrDefault(names.get(written.size()), 0);
            written.add(type == boolean.class ? "false" : String.valueOf(number));
        }
        String answer = Readme.answer(new Cubequarry(), method, String.join(", ", written));
        boolean isOfArguments = answer.startsWith("throws ") && !answer.equals("throws IllegalStateException");
        Check.is(method.getName() + given, isOfArguments ? answer : "", due);
    }

    private void probeEnds(String name, int least, int most, int beyond) throws IllegalAccessException {
        probe(name, least, "");
        probe(name, most, "");
        probe(name, least - beyond, NOT_LET);
        probe(name, most + beyond, NOT_LET);
    }

    private void arguments(String told) throws IllegalAccessException {
        Matcher range = RANGE.matcher(told);
        while (range.find()) {
            let.put(range.group(1), Math.max(0, Integer.parseInt(range.group(2))));
        }
        range.reset();
        while (range.find()) {
            int least = Integer.parseInt(range.group(2));
            int most = Integer.parseInt(range.group(3));
            if (range.group(4) == null) {
                probeEnds(range.group(1), least, most, 1);
            } else {
                // 65536 is eight times 8192, and so let.
                probeEnds(range.group(1), least, most, 2);
                probeEnds(range.group(1), 8 * least, 8 * most, 8);
            }
        }
        Matcher end = LAST_END.matcher(told);
        if (end.find()) {
            let.put("from", 65530);
            probe("many", Integer.parseInt(end.group(1)) - 65530, "");
            probe("many", Integer.parseInt(end.group(1)) - 65529, NOT_LET);
        }
    }

    private void cells() throws IllegalAccessException {
        Set<String> found = new TreeSet<>(names);
        found.retainAll(CELLS);
        for (String name : found) {
            probe(name, 7, "");
            probe(name, -1, "throws IndexOutOfBoundsException");
            probe(name, 8, "throws IndexOutOfBoundsException");
        }
        Check.is(method.getName() + " has a cell", !found.isEmpty(), mayThrow(IndexOutOfBoundsException.class));
    }

    private boolean mayThrow(Class<?> exception) {
        return List.of(method.getExceptionTypes()).contains(exception);
    }

    static void ask(String page, Path document, Map<String, Method> methods)
            throws IOException, IllegalAccessException {
        Map<String, List<String>> names = names(document);
        Set<String> found = new TreeSet<>();
        Matcher row = ROW.matcher(page);
        while (row.find()) {
            String name = row.group(1);
            ReadmeTable table = new ReadmeTable(methods.get(name), names.get(name));
            Check.is(row.group(), row.group(2), String.join(", ", names.get(name)));
            Check.is(row.group(), !row.group(3).isBlank(), table.mayThrow(IllegalArgumentException.class));
            Check.is(row.group(), !row.group(4).isBlank(), table.mayThrow(IllegalStateException.class));
            table.arguments(row.group(3));
            found.add(name);
        }
        for (String name : methods.keySet()) {
            ReadmeTable table = new ReadmeTable(methods.get(name), names.get(name));
            boolean throwsMore = table.mayThrow(IllegalArgumentException.class)
                    || table.mayThrow(IllegalStateException.class);
            Check.is(name + " has a row", found.contains(name), throwsMore);
            table.cells();
        }
    }
}
