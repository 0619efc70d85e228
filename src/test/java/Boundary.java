import java.io.IOException;
import java.io.UncheckedIOException;
import java.nio.file.Files;
import java.nio.file.Path;
import java.util.ArrayList;
import java.util.List;
import java.util.Map;
import java.util.TreeMap;

/**
 * A test of its own for each sentence of the document that names a boundary case. A test names the promise (TERMS for
 * the section of this name) and cites the words that it holds the program to. Words that do not stand there are a
 * failure, and so are a test that looks at no answer and a boundary of the document that no test cites.
 */
final class Boundary {
    static final int TERMS = 0;
    private static final Path DOCUMENT = Path.of("../shared/DOC.md");
    /** What makes a row of a promise, other than those on exceptions, a boundary case that has to be cited. */
    private static final String EDGES = ".*([0-9]|Of several|present hour|at first|Either all|even if|so far|latest"
        + "|replacing|afterwards|available|first, then).*";
    /** The sentences of the Terms that are a heading, or that hold for no call: on threads and on divisions. */
    private static final String NO_CASE = "[A-Z][a-z]+( and [a-z]+)?\\.|The class is not thread-safe\\.|Integer div.*";

    private static final Map<Integer, List<String>> SECTIONS = new TreeMap<>();
    private static final Map<Integer, List<String>> CITED = new TreeMap<>();
    private static int tests = 0;
    private static String current = "";

    private Boundary() {
    }

    interface Scene {
        ContainerTerminal make();
    }

    interface Step {
        Object on(ContainerTerminal x);
    }

    static void test(int promise, String words, Runnable test) {
        current = (promise == TERMS ? "Terms" : "Promise " + promise) + " \"" + words + "\": ";
        Check.due(current + "stands in the document", true, wholeSection(promise).contains(words));
        CITED.computeIfAbsent(promise, key -> new ArrayList<>()).add(words);
        int before = Check.looked();
        test.run();
        Check.due(current + "has a test", true, Check.looked() > before);
        tests++;
    }

    static void due(String what, Object want, Object got) {
        Check.due(current + what, want, got);
    }

    /** The step on a new scene answers this. */
    static void answers(Object want, Scene scene, Step step) {
        ContainerTerminal x = scene.make();
        due("the call", want, Check.outcome(() -> step.on(x)));
    }

    /** The step on a new scene throws the very exception that is due, and leaves everything as it was. */
    static void refuses(Class<? extends RuntimeException> want, Scene scene, Step step) {
        ContainerTerminal x = scene.make();
        due("the call", "throws " + want.getName(), Check.outcome(() -> step.on(x)));
        due("what the refused call leaves", Whole.tell(scene.make()), Whole.tell(x));
    }

    /** The step throws the very exception that is due on this terminal, which goes on. */
    static void throwsDue(Class<? extends RuntimeException> want, ContainerTerminal x, Step step) {
        due("the call", "throws " + want.getName(), Check.outcome(() -> step.on(x)));
    }

    static int tests() {
        return tests;
    }

    /** Looks whether each boundary case of the document is cited by a test. */
    static void allAreCited() {
        for (int promise : SECTIONS.keySet()) {
            List<String> cited = CITED.getOrDefault(promise, List.of());
            for (String row : SECTIONS.get(promise)) {
                for (String part : promise == TERMS ? sentences(row) : cases(row)) {
                    boolean found = cited.stream().anyMatch(words -> part.contains(words) || words.contains(part));
                    Check.due("a test for promise " + promise + ", \"" + part + "\"", true, found);
                }
            }
        }
    }

    private static List<String> sentences(String row) {
        List<String> sentences = new ArrayList<>();
        for (String sentence : row.split("(?<=\\.) (?=[A-Z])|(?<=;) ")) {
            if (!sentence.matches(NO_CASE)) {
                sentences.add(sentence);
            }
        }
        return sentences;
    }

    /** The conditions of a row on an exception, or the sentences of another row that name a boundary case. */
    private static List<String> cases(String row) {
        List<String> cases = new ArrayList<>();
        if (row.startsWith("Throws ")) {
            return List.of(row.substring(row.indexOf(" if ") + 4).split(",? or |; |, (?!starting|is )"));
        }
        String told = row.startsWith("`") ? row.substring(row.indexOf("`: ") + 3) : row;
        for (String sentence : sentences(told)) {
            if (sentence.matches(EDGES)) {
                cases.add(sentence);
            }
        }
        return cases;
    }

    /** The rows of a promise's section, each on one line: what it does, its arguments, its answer, its exceptions. */
    static List<String> rowsOf(int promise) {
        if (SECTIONS.isEmpty()) {
            readSections();
        }
        return SECTIONS.getOrDefault(promise, List.of());
    }

    private static String wholeSection(int promise) {
        return String.join("\n", rowsOf(promise));
    }

    private static void readSections() {
        for (String section : document().split("\n## ")) {
            String title = section.substring(0, section.indexOf('\n'));
            if (title.equals("Terms") || title.startsWith("Promise ")) {
                int promise = title.equals("Terms") ? TERMS : Integer.parseInt(title.split("[ :]")[1]);
                SECTIONS.put(promise, rows(section.substring(title.length())));
            }
        }
        Check.due("sections", 66, SECTIONS.size());
    }

    private static List<String> rows(String text) {
        List<String> rows = new ArrayList<>();
        for (String row : text.strip().split("\n\n|\n(?=- )")) {
            rows.add(row.strip().replaceAll("\\s+", " "));
        }
        return rows;
    }

    private static String document() {
        try {
            return Files.readString(DOCUMENT);
        } catch (IOException thrown) {
            throw new UncheckedIOException(thrown);
        }
    }
}
