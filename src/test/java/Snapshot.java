import java.util.ArrayList;
import java.util.List;

/**
 * All that an object shows, a line for each call. With a short trace and few cells set it takes some 400
 * of the 512 calls that an object may be used for, so two states are compared on two objects.
 */
final class Snapshot {
    private Snapshot() {
    }

    static List<String> of(FieldTrace x) {
        List<String> lines = new ArrayList<>();
        add(lines, "failure()", x::failure);
        add(lines, "rows()", x::rows);
        for (int register = 0; register <= 2; register++) {
            int which = register;
            add(lines, "register(" + which + ", false)", () -> x.register(which, false));
            add(lines, "register(" + which + ", true)", () -> x.register(which, true));
        }
        addTrace(lines, x);
        addCells(lines, x);
        addRelocation(lines, x);
        return lines;
    }

    private static void addTrace(List<String> lines, FieldTrace x) {
        int rows = x.rows();
        for (int k = 0; k < 3 * rows; k++) {
            int row = k / 3;
            int register = k % 3;
            add(lines, "traced(" + row + ", " + register + ")", () -> x.traced(row, register));
        }
    }

    private static void addCells(List<String> lines, FieldTrace x) {
        for (int k = 0; k < 5 * 64; k++) {
            int segment = 1 + k / 64;
            int cell = k % 64;
            String place = "(" + segment + ", " + cell + ")";
            if (add(lines, "value" + place, () -> x.value(segment, cell))) {
                add(lines, "segment" + place, () -> x.segment(segment, cell));
            }
        }
    }

    private static void addRelocation(List<String> lines, FieldTrace x) {
        for (int segment = 1; segment <= 6; segment++) {
            int which = segment;
            add(lines, "begins(" + which + ")", () -> x.begins(which));
        }
        int end = x.begins(6);
        for (int k = 1; k < end; k++) {
            int address = k;
            add(lines, "relocated(" + address + ")", () -> x.relocated(address));
        }
    }

    /** Whether the call answered. */
    private static boolean add(List<String> lines, String name, Check.Call call) {
        try {
            lines.add(name + " = " + call.answer());
            return true;
        } catch (RuntimeException thrown) {
            lines.add(name + " throws " + thrown.getClass().getSimpleName());
            return false;
        }
    }
}
