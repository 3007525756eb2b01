import java.util.NoSuchElementException;

/** The boundaries of relocation, promises 13, 14 and 15: traced, begins and relocated. */
public final class RelocationBoundaryTest {
    public static void main(String[] args) {
        segmentsOfBegins();
        emptyMemory();
        lengths();
        endOfRelocated();
        gaps();
        fromSegmentToSegment();
        addresses();
        registers();
        Boundary.end();
    }

    /** Every cell of every segment set to 1000 times its segment plus its cell, BITS to 0. */
    private static Machine full() {
        Machine x = new Machine();
        for (int cell = 0; cell <= 63; cell++) {
            x.number(1, cell, 1000 + cell).number(2, cell, 2000 + cell).number(3, cell, 3000 + cell);
            x.number(4, cell, 0).number(5, cell, 5000 + cell);
        }
        return x;
    }

    private static void segmentsOfBegins() {
        Boundary b = new Boundary(14, "IllegalArgumentException: it is not 1 .. 6");
        for (Machine x : new Machine[] {new Machine(), full()}) {
            Check.dueAnswer(b.here("begins(1)"), 1, () -> x.trace.begins(1));
            Check.dueAnswer(b.here("begins(6)"), x.trace.begins(5) == 1 ? 1 : 321, () -> x.trace.begins(6));
            for (int segment : new int[] {0, 7, -1, Integer.MIN_VALUE, Integer.MAX_VALUE}) {
                Check.dueThrow(b.beyond("begins(" + segment + ")"), IllegalArgumentException.class,
                        () -> x.trace.begins(segment));
            }
        }
    }

    private static void emptyMemory() {
        Boundary b = new Boundary(14, "the segments, in order, are put one behind the other from address 1 on");
        FieldTrace x = new FieldTrace();
        for (int segment = 1; segment <= 6; segment++) {
            Check.due(b.here("nothing is set, begins(" + segment + ")"), x.begins(segment), 1);
        }
        for (int one = 1; one <= 5; one++) {
            FieldTrace y = new Machine().number(one, 0, 0).trace;
            for (int segment = 1; segment <= 6; segment++) {
                String name = "a cell of " + one + ", begins(" + segment + ")";
                Check.due(segment <= one ? b.here(name) : b.beyond(name), y.begins(segment), segment <= one ? 1 : 2);
            }
        }
        FieldTrace z = full().trace;
        for (int segment = 1; segment <= 6; segment++) {
            Check.due(b.beyond("all is set, begins(" + segment + ")"), z.begins(segment), 64 * segment - 63);
        }
    }

    private static void lengths() {
        Boundary b = new Boundary(14, "each with as many cells as up to its last that is set");
        for (int segment = 1; segment <= 4; segment++) {
            int home = segment;
            int behind = segment + 1;
            for (int cell : new int[] {0, 1, 62, 63}) {
                FieldTrace x = new Machine().number(segment, cell, 0).trace;
                Check.due(b.here("cell " + cell + " of " + segment), x.begins(behind), cell + 2);
                Check.due(b.here("cell " + cell + " of " + segment + ", the end"), x.begins(6), cell + 2);
            }
            Machine y = new Machine().number(segment, 43, 0);
            y.number(segment, 42, 0);
            Check.due(b.here("a cell before the last"), y.trace.begins(behind), 45);
            y.number(segment, 44, 0);
            Check.due(b.beyond("a cell behind the last"), y.trace.begins(behind), 46);
            Machine z = new Machine().number(segment, 43, 7);
            Check.dueThrow(b.here("a refused write"), IllegalStateException.class, () -> z.number(home, 43, 8));
            Check.due(b.here("a refused write"), z.trace.begins(behind), 45);
            y.number(segment, 63, 0);
            Check.due(b.beyond("the last cell"), y.trace.begins(behind), 65);
        }
        Machine bits = new Machine().number(4, 55, 1);
        Check.due(b.here("one of two in BITS"), bits.trace.begins(5), 57);
        bits.number(4, 56, 1);
        Check.due(b.beyond("what BITS has set counts"), bits.trace.begins(5), 61);
        Machine last = new Machine().number(4, 60, 1).number(4, 61, 1);
        Check.due(b.here("nothing set behind 61"), last.trace.begins(5), 63);
        Machine output = new Machine().number(5, 0, 1);
        Check.dueThrow(b.here("OUTPUT out of its turn"), IllegalStateException.class, () -> output.number(5, 2, 1));
        Check.due(b.here("OUTPUT out of its turn"), output.trace.begins(6), 2);
    }

    private static void endOfRelocated() {
        Boundary b = new Boundary(15, "NoSuchElementException: it is not 1 up to before the end");
        none(b, new Machine(), 1);
        for (int segment = 1; segment <= 5; segment++) {
            Machine x = new Machine().number(segment, 0, 7);
            Check.dueAnswer(b.here("one cell of " + segment), 7, () -> x.trace.relocated(1));
            none(b, x, 2);
        }
        Machine y = new Machine().number(2, 63, 7);
        Check.dueAnswer(b.here("the last of 64"), 7, () -> y.trace.relocated(64));
        none(b, y, 65);
        Machine z = full();
        Check.dueAnswer(b.here("the first of all"), 1000, () -> z.trace.relocated(1));
        Check.dueAnswer(b.here("the last of all"), 5063, () -> z.trace.relocated(320));
        none(b, z, 321);
    }

    private static void none(Boundary b, Machine x, int end) {
        for (int address : new int[] {0, end, end + 1, -1, Integer.MIN_VALUE, Integer.MAX_VALUE}) {
            Check.dueThrow(b.beyond("relocated(" + address + ") with the end at " + end),
                    NoSuchElementException.class, () -> x.trace.relocated(address));
        }
    }

    private static void gaps() {
        Boundary b = new Boundary(15, "cells not set are 0");
        FieldTrace x = new Machine().number(1, 2, 12).number(2, 63, 22).number(4, 2, 42).trace;
        long[] row = new long[1 + 3 + 64 + 3];
        row[3] = 12;
        row[67] = 22;
        row[70] = 42;
        for (int k = 1; k < row.length; k++) {
            int address = k;
            String name = "relocated(" + k + ")";
            Check.dueAnswer(row[k] == 0 ? b.here(name) : b.beyond(name), row[k], () -> x.relocated(address));
        }
    }

    private static void fromSegmentToSegment() {
        Boundary b = new Boundary(15, "The number at an address after relocation");
        FieldTrace x = full().trace;
        for (int segment = 1; segment <= 5; segment++) {
            int first = 64 * segment - 63;
            Check.due(b.here("the first of segment " + segment), x.relocated(first), segment == 4 ? 0 : 1000 * segment);
            Check.due(b.here("the last of segment " + segment), x.relocated(first + 63),
                    segment == 4 ? 0 : 1000 * segment + 63);
        }
        Machine y = new Machine().number(1, 0, 11).number(5, 0, 55);
        Check.due(b.here("the last before three empty segments"), y.trace.relocated(1), 11);
        Check.due(b.beyond("the first behind three empty segments"), y.trace.relocated(2), 55);
        y.number(3, 1, 33);
        Check.due(b.beyond("a gap grown between them"), y.trace.relocated(2), 0);
        Check.due(b.beyond("what grew between them"), y.trace.relocated(3), 33);
        Check.due(b.beyond("moved by what grew"), y.trace.relocated(4), 55);
        Check.due(b.here("the largest number"), new Machine().number(1, 0, -1).trace.relocated(1), Flag.P - 1);
    }

    private static void addresses() {
        Boundary b = new Boundary(15, "an address becomes the number of its segment's beginning plus its cell (modulo P)");
        becomes(b.here("the lowest that needs no P"), new Machine().address(1, 0, 1, -1), 1, 0);
        becomes(b.beyond("one below 0"), new Machine().address(1, 0, 1, -2), 1, Flag.P - 1);
        becomes(b.beyond("the lowest"), new Machine().address(1, 0, 1, -1000), 1, Flag.P - 999);
        becomes(b.here("the first cell"), new Machine().address(1, 0, 1, 0), 1, 1);
        becomes(b.here("the highest"), new Machine().address(1, 0, 1, 1000), 1, 1001);
        becomes(b.here("of an empty segment"), new Machine().address(1, 0, 5, 0), 1, 2);
        becomes(b.here("-2 of the second"), new Machine().address(1, 0, 2, -2), 1, 0);
        becomes(b.beyond("-3 of the second"), new Machine().address(1, 0, 2, -3), 1, Flag.P - 1);
        Machine last = new Machine().number(1, 63, 0).number(2, 63, 0).number(3, 63, 0).number(4, 63, 0);
        last.address(5, 0, 5, 1000).address(5, 1, 5, -257).address(5, 2, 5, -258).address(5, 3, 5, -1000);
        becomes(b.here("the highest of the last"), last, 257, 1257);
        becomes(b.here("-257 of the last"), last, 258, 0);
        becomes(b.beyond("-258 of the last"), last, 259, Flag.P - 1);
        becomes(b.beyond("-1000 of the last"), last, 260, Flag.P - 743);
    }

    private static void becomes(String name, Machine x, int address, long want) {
        Check.dueAnswer(name, want, () -> x.trace.relocated(address));
    }

    private static void registers() {
        Boundary b = new Boundary(13, "Register 0 .. 2 in row k of the trace, relocated");
        for (int cell : new int[] {-1000, -2, -1, 0, 1000}) {
            // The step that moves fp to the cell of segment 1, and one more that has it in its row.
            FieldTrace x = new Machine().word(0, 0, 0, 0, Flag.OP1_FP | Flag.RETURN).word(1, 0, 0, 0, Flag.OP1_FP)
                    .address(2, 0, 1, cell).trace;
            x.run(2);
            Check.dueAnswer(b.here("fp before it moved"), 3, () -> x.traced(0, 2));
            String name = "fp at " + cell;
            Check.dueAnswer(cell < -1 ? b.beyond(name) : b.here(name), cell < -1 ? Flag.P + 1 + cell : 1 + cell,
                    () -> x.traced(1, 2));
        }
        for (int cell : new int[] {-1000, -4, -3, 1000}) {
            FieldTrace x = new Machine().word(0, 0, 0, 1, Flag.OP1_PC | Flag.AP_RES).number(1, 1, cell)
                    .word(2, 0, 0, 0, Flag.OP1_FP).trace;
            x.run(2);
            String name = "ap at " + cell;
            Check.dueAnswer(cell < -4 ? b.beyond(name) : b.here(name), cell < -4 ? Flag.P + 4 + cell : 4 + cell,
                    () -> x.traced(1, 1));
        }
        Machine grown = new Machine().word(0, 0, 0, 0, Flag.OP1_FP);
        grown.trace.run(1);
        Check.due(b.here("fp as segment 1 is"), grown.trace.traced(0, 2), 2);
        grown.number(1, 63, 0);
        Check.due(b.beyond("fp when segment 1 has grown"), grown.trace.traced(0, 2), 65);
    }
}
