import java.util.ArrayList;
import java.util.List;

/**
 * A sentence of the document that names a boundary, with the promise it belongs to. Each thing that is
 * tried takes its name from here, and end() asks that both sides of every boundary were tried.
 */
final class Boundary {
    private static final List<Boundary> ALL = new ArrayList<>();

    private final String name;
    private int tried = 0;
    private int triedBeyond = 0;

    Boundary(int promise, String sentence) {
        name = "promise " + promise + ", \"" + sentence + "\": ";
        ALL.add(this);
    }

    /** The name of something tried on this side of the boundary. */
    String here(String what) {
        tried++;
        return name + what;
    }

    /** The name of something tried beyond the boundary. */
    String beyond(String what) {
        triedBeyond++;
        return name + what;
    }

    static void end() {
        for (Boundary boundary : ALL) {
            Check.due(boundary.name + "tried on this side", boundary.tried > 0 ? 1 : 0, 1);
            Check.due(boundary.name + "tried beyond", boundary.triedBeyond > 0 ? 1 : 0, 1);
        }
        System.out.print(ALL.size() + " boundaries, ");
        Check.end();
    }
}
