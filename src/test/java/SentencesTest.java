import java.io.IOException;
import java.lang.reflect.Method;
import java.nio.file.Files;
import java.nio.file.Path;
import java.util.ArrayList;
import java.util.List;

/** Whether SENTENCES.md has every sentence of the document, and the tests that it names stand. */
public final class SentencesTest {
    private static final Path TABLE = Path.of("src/test/SENTENCES.md");
    private static final Path DOCUMENT = Path.of("../shared/DOC.md");
    private static final String NO_TEST = "none: ";

    public static void main(String[] args) throws IOException, ClassNotFoundException {
        Check.sentence("SENTENCES.md");
        List<String> sentences = new ArrayList<>();
        for (String line : Files.readAllLines(TABLE)) {
            String[] cells = line.split(" ?\\| ?");
            if (cells.length == 3 && !cells[1].equals("sentence") && !cells[1].startsWith("-")) {
                sentences.add(cells[1]);
                testsStand(cells[1], cells[2]);
            }
        }
        if (Files.exists(DOCUMENT)) {
            compare(String.join(" ", sentences), plainDocument());
        } else {
            System.out.println("there is no " + DOCUMENT + " to compare the sentences with");
        }
        Check.end();
    }

    private static void testsStand(String sentence, String names) throws ClassNotFoundException {
        if (names.startsWith(NO_TEST)) {
            return;
        }
        for (String name : names.split(", ")) {
            String[] classAndMethod = name.split("\\.");
            boolean stands = false;
            for (Method method : Class.forName(classAndMethod[0]).getDeclaredMethods()) {
                stands = stands || method.getName().equals(classAndMethod[1]);
            }
            Check.due(name + " stands, for \"" + sentence + "\"", stands, true);
        }
    }

    /** The document's sentences alone: no headings, no code, no signature ahead of a promise. */
    private static String plainDocument() throws IOException {
        List<String> lines = new ArrayList<>();
        boolean inFace = false;
        for (String line : Files.readAllLines(DOCUMENT)) {
            if (line.startsWith("```")) {
                inFace = line.equals("```java");
            } else if (!inFace && !line.startsWith("#") && !line.isBlank()) {
                lines.add(line.trim().replaceFirst("^`[^`]*\\([^`]*`: ", ""));
            }
        }
        return String.join(" ", lines);
    }

    private static void compare(String table, String document) {
        int same = 0;
        while (same < Math.min(table.length(), document.length())
                && table.charAt(same) == document.charAt(same)) {
            same++;
        }
        Check.due("the same as the document up to \"" + table.substring(Math.max(0, same - 40), same)
            + "\"", table.equals(document), true);
    }
}
