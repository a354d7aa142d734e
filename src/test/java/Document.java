import java.io.IOException;
import java.io.UncheckedIOException;
import java.nio.file.Files;
import java.nio.file.Path;
import java.util.ArrayList;
import java.util.List;
import java.util.TreeSet;

/** The document: a test says by words of it which sentence it is of, and these must stand there. */
final class Document {

    private static final Path PATH = Path.of("../shared/DOC.md");
    private static final int PROMISES = 23;
    private static final String TEXT = read();
    private static final TreeSet<String> QUOTED = new TreeSet<>();

    private Document() {
    }

    private static String read() {
        try {
            return Files.readString(PATH).replaceAll("\\s+", " ");
        } catch (IOException e) {
            throw new UncheckedIOException(e);
        }
    }

    private static String between(String start, String end) {
        int from = TEXT.indexOf(start);
        int to = TEXT.indexOf(end, from + start.length());
        return from < 0 || to < 0 ? "" : TEXT.substring(from, to);
    }

    private static String textOfPromise(int number) {
        String end = number == PROMISES ? "## Not promised" : "## Promise " + (number + 1) + ":";
        return between("## Promise " + number + ":", end);
    }

    /** What follows is a test of these words, which stand ahead of the sections. */
    static void opening(String words) {
        quote("opening", between("# TaflHall", "== 1."), words);
    }

    /** What follows is a test of these words of one of the sections 1 to 4. */
    static void section(int number, String words) {
        String end = number == 4 ? "A method that throws" : "== " + (number + 1) + ".";
        quote("section " + number, between("== " + number + ".", end), words);
    }

    /** What follows is a test of these words, which hold for all promises. */
    static void allPromises(String words) {
        quote("all promises", between("A method that throws", "## Promise 1:"), words);
    }

    /** What follows is a test of these words of a promise. */
    static void promise(int number, String words) {
        quote("promise " + number, textOfPromise(number), words);
        QUOTED.add(number + " " + words);
    }

    private static void quote(String where, String text, String words) {
        Checks.of(where + ", \"" + words + "\"");
        Checks.same("the words stand in the document", text.contains(words), true);
    }

    /** Each promise was quoted, and each exception of each promise had a test of its own. */
    static void allPromisesWereQuoted() {
        Checks.of("the tests");
        int count = 0;
        for (int number = 1; number <= PROMISES; number++) {
            String start = number + " ";
            Checks.same("a test of promise " + number, QUOTED.stream().anyMatch(one -> one.startsWith(start)), true);
            for (String words : refusals(textOfPromise(number))) {
                Checks.same("a test of promise " + number + ", " + words, QUOTED.contains(number + " " + words), true);
                count++;
            }
        }
        Checks.same("exceptions in the document", count > 0, true);
    }

    private static List<String> refusals(String text) {
        List<String> found = new ArrayList<>();
        for (String part : text.split("(?=Throws `)")) {
            if (part.startsWith("Throws `")) {
                found.add(part.trim());
            }
        }
        return found;
    }
}
