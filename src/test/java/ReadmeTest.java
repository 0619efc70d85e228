import java.io.IOException;
import java.nio.file.Files;
import java.nio.file.Path;
import java.util.List;

/** README.md against the document: each call with its answer and exceptions, the terms, and an example that holds. */
public final class ReadmeTest {
    private static final Path README = Path.of("README.md");
    private static final Path DOCUMENT = Path.of("../shared/DOC.md");
    private static final Path THIS = Path.of("src/test/java/ReadmeTest.java");
    private static final int PROMISES = 65;

    public static void main(String[] arguments) throws IOException {
        String readme = Files.readString(README);
        calls(readme);
        terms(readme);
        exampleIsRun(readme);
        example();
        oneCommand(readme);
        Check.end();
    }

    private static void calls(String readme) {
        int after = -1;
        for (int promise = 1; promise <= PROMISES; promise++) {
            String row = rowOf(promise);
            int place = readme.indexOf("\n" + row + "\n");
            Check.due("in its order, the row " + row, true, place > after);
            after = place;
            for (String told : Boundary.rowsOf(promise)) {
                if (told.startsWith("- ")) {
                    String argument = "| " + told.substring(2).replaceFirst(": ", " | ") + " |";
                    Check.due("the argument " + argument, true, readme.contains("\n" + argument + "\n"));
                }
            }
        }
        Check.due("rows of calls", (long) PROMISES, readme.lines().filter(line -> line.matches("\\| `.*\\(.*")).count());
    }

    /** The row of a table that has the call, what it does, its answer and its exceptions in the document's words. */
    private static String rowOf(int promise) {
        String call = "";
        String answer = "-";
        String exceptions = "";
        for (String told : Boundary.rowsOf(promise)) {
            if (told.startsWith("`")) {
                call = told.replaceFirst("( throws [^`]*)?`: ", "` | ");
            } else if (told.startsWith("Returns ")) {
                answer = told.substring("Returns ".length(), told.length() - 1);
            } else if (told.startsWith("Throws ")) {
                exceptions += (exceptions.isEmpty() ? "" : "; ") + told.substring("Throws ".length());
            }
        }
        return "| " + call + " | " + answer + " | " + (exceptions.isEmpty() ? "-" : exceptions) + " |";
    }

    /** Each sentence of the sections on terms and commands stands in the document. */
    private static void terms(String readme) throws IOException {
        String document = plain(Files.readString(DOCUMENT));
        for (String title : List.of("\n## Terms\n", "\n## Commands\n")) {
            int start = readme.indexOf(title);
            Check.due("the section" + title, true, start >= 0);
            int end = readme.indexOf("\n## ", start + 1);
            for (String sentence : plain(readme.substring(start + title.length(), end)).split("(?<=\\.) ")) {
                Check.due("of the document: " + sentence, true, document.contains(sentence));
            }
        }
    }

    private static String plain(String text) {
        return text.replace("```", "").strip().replaceAll("\\s+", " ");
    }

    /** The lines of the example stand in this order in the method below. */
    private static void exampleIsRun(String readme) throws IOException {
        String fence = "```java\n";
        int start = readme.indexOf(fence);
        Check.due("an example", true, start >= 0);
        String told = readme.substring(start + fence.length(), readme.indexOf("```", start + 1));
        String tested = withoutComments(Files.readString(THIS));
        Check.due("the example is the one that is run", true, tested.contains(withoutComments(told)));
    }

    private static String withoutComments(String code) {
        return code.replaceAll(" *//.*", "").replaceAll("\n +", "\n").strip();
    }

    private static void example() {
        ContainerTerminal terminal = new ContainerTerminal();
        int ships = terminal.moor(0, 7, 30);
        int id = terminal.stow(0, 1, 12, 45);
        int answer = terminal.answerOf(id);
        boolean right = terminal.clear(0, 1, answer);
        int inYard = terminal.deliver(id);
        int undoable = terminal.undo();
        for (char character : "hours 3;leave 0".toCharArray()) {
            terminal.append(character);
        }
        int commands = terminal.run();
        StringBuilder line = new StringBuilder();
        int length = terminal.formatBerth(0);
        for (int index = 0; index < length; index++) {
            line.append(terminal.lineChar(index));
        }
        boolean refused = false;
        try {
            terminal.leave(0);
        } catch (IllegalStateException thrown) {
            refused = true;
        }
        Check.due("the example", "1 0 7 true 0 3 2 4 B0 - true", ships + " " + id + " " + answer + " " + right + " "
            + inYard + " " + undoable + " " + commands + " " + length + " " + line + " " + refused);
        Check.due("the yard after the example", "1 3", terminal.yardCount() + " " + terminal.hour());
    }

    private static void oneCommand(String readme) {
        Check.due("the command that runs all tests", true, readme.contains("\n```sh\n.ci/run\n```\n"));
        Check.due("it can be run", true, Files.isExecutable(Path.of(".ci/run")));
    }
}
