import java.io.IOException;
import java.nio.file.Files;
import java.nio.file.Path;
import java.util.ArrayList;
import java.util.LinkedHashMap;
import java.util.List;
import java.util.Map;
import java.util.regex.Matcher;
import java.util.regex.Pattern;

/** The document's own words: a test quotes the sentence that it is of, and none may be forgotten. */
final class Document {
    private static final Pattern HEADING = Pattern.compile("## (Promise \\d+|[^:]+)(: .*)?");
    private static final Pattern SECTION = Pattern.compile("(\\d)\\. [A-Z].*");
    /** What tells of a boundary wherever it stands: a Throws row, a -9, what is said in brackets. */
    private static final Pattern[] BOUNDARIES = {
        Pattern.compile("Throws `\\w+` if .*?(?= Throws `| ---- |$)"),
        Pattern.compile("-9 if [^.]*\\."),
        Pattern.compile("(?<= )\\((?=[^()]*\\b[a-z]{2})([^()]|\\([^()]*\\))*\\)")};

    private static final Map<String, String> WORDS = new LinkedHashMap<>();
    private static final Map<String, List<String>> QUOTED = new LinkedHashMap<>();

    private Document() {
    }

    static void read(Path path) throws IOException {
        String place = "ahead of all";
        for (String line : Files.readAllLines(path)) {
            Matcher heading = HEADING.matcher(line);
            Matcher section = SECTION.matcher(line);
            if (heading.matches()) {
                place = heading.group(1);
            } else if (section.matches()) {
                place = "Section " + section.group(1);
            } else if (!line.startsWith("`")) {
                WORDS.merge(place, line.strip(), (words, more) -> (words + " " + more).strip());
            }
        }
    }

    /** What is checked from here on is what the document says there. */
    static void says(String place, String sentence) {
        Check.place(place + ", \"" + sentence + "\"");
        Check.is("stands in the document", WORDS.getOrDefault(place, "").contains(sentence), true);
        QUOTED.computeIfAbsent(place, key -> new ArrayList<>()).add(sentence);
    }

    static void says(int promise, String sentence) {
        says("Promise " + promise, sentence);
    }

    /** Each boundary that the document names has been quoted by a test. */
    static void isQuoted() {
        Check.place("the document");
        int found = 0;
        for (String place : WORDS.keySet()) {
            if (place.equals("The public face") || place.equals("Not promised")) {
                continue;
            }
            for (Pattern boundary : BOUNDARIES) {
                Matcher told = boundary.matcher(WORDS.get(place));
                while (told.find()) {
                    Check.is(place + ", \"" + told.group() + "\" has a test", hasTest(place, told.group()), true);
                    found++;
                }
            }
        }
        Check.is("there are many boundaries", found > 100, true);
    }

    private static boolean hasTest(String place, String words) {
        for (String sentence : QUOTED.getOrDefault(place, List.of())) {
            if (sentence.contains(words)) {
                return true;
            }
        }
        return false;
    }
}
