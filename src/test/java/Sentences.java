import java.io.IOException;
import java.nio.file.Path;

/** Each sentence of the document (its path is the argument) that names a boundary, by its own words. */
final class Sentences {
    private Sentences() {
    }

    public static void main(String[] args) throws IOException {
        Document.read(Path.of(args[0]));
        Rows.ask();
        Sections.ask();
        Acts.ask();
        Answers.ask();
        Document.isQuoted();
        Check.done("Sentences");
    }
}
