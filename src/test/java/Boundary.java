import java.io.IOException;
import java.nio.file.Files;
import java.nio.file.Path;
import java.util.ArrayList;
import java.util.List;

/**
 * A sentence of the document that names a boundary, with the promise it belongs to. Each thing that is
 * tried takes its name from here, and end() asks that both sides of every boundary were tried, and that
 * the sentence stands in the document so.
 */
final class Boundary {
    private static final Path DOCUMENT = Path.of("../shared/DOC.md");
    private static final List<Boundary> ALL = new ArrayList<>();

    private final String name;
    private final String sentence;
    private int tried = 0;
    private int triedBeyond = 0;

    Boundary(int promise, String sentence) {
        name = "promise " + promise + ", \"" + sentence + "\": ";
        this.sentence = sentence;
        ALL.add(this);
    }

    /** The name of something tried on this side of the boundary. */
    String here(String what) {
        tried++;
        return name + what;
    }

    /** The name of something tried beyond the boundary. */
    String beyond(String what) {
        triedBeyond++;
        return name + what;
    }

    static void end() {
        String document = document();
        boolean unread = document.isEmpty();
        for (Boundary boundary : ALL) {
            Check.due(boundary.name + "tried on this side", boundary.tried > 0 ? 1 : 0, 1);
            Check.due(boundary.name + "tried beyond", boundary.triedBeyond > 0 ? 1 : 0, 1);
            Check.due(boundary.name + "stands in the document", unread || document.contains(boundary.sentence) ? 1 : 0, 1);
        }
        System.out.print(ALL.size() + " boundaries, ");
        Check.end();
    }

    /** The document with its lines joined, as a sentence may go over two of them. */
    private static String document() {
        try {
            return Files.readString(DOCUMENT).replaceAll("\\s+", " ");
        } catch (IOException notThere) {
            // The sentences are words about the tests: without the document, the class is tested all the same.
            System.out.println(DOCUMENT + " can't be read, so the sentences are not looked up");
            return "";
        }
    }
}
