import java.util.NoSuchElementException;

/** The boundaries of promises 1, 4, 5, 10 and 11: a new object, number, address, segment and value. */
public final class MemoryBoundaryTest {
    private static final long BITS_END = 1L << 60;
    private static final int[] NO_SEGMENTS = {0, 6, -1, 7, Integer.MIN_VALUE, Integer.MAX_VALUE};
    private static final int[] NO_CELLS = {-1, 64, -64, 128, Integer.MIN_VALUE, Integer.MAX_VALUE};

    public static void main(String[] args) {
        noCellIsSet();
        registersAndTraceAtFirst();
        numbers();
        segmentsAndCellsOfNumber();
        sameNumber();
        range();
        bitsOperands();
        bitsBehindOperands();
        bitsAreSet();
        bitsAtTheEnd();
        bitsSetOtherwise();
        output();
        segmentsAndCellsOfAddress();
        addresses();
        sameAddress();
        addressesThatCannotBe();
        looks(10, true);
        looks(11, false);
        numberOrAddress();
        Boundary.end();
    }

    private static void noCellIsSet() {
        Boundary b = new Boundary(1, "No cell is set");
        for (int segment = 1; segment <= 5; segment++) {
            Machine x = new Machine();
            for (int cell = 0; cell <= 63; cell++) {
                x.notSet(b.here("a new object"), segment, cell);
            }
            Machine y = new Machine().number(segment, 0, 0);
            y.holds(b.beyond("the first cell written"), segment, 0, 0, 0);
            y.notSet(b.here("the cell behind it"), segment, 1);
        }
    }

    private static void registersAndTraceAtFirst() {
        Boundary b = new Boundary(1, "pc is cell 0 of segment 1, ap and fp are cell 0 of segment 2; an empty trace");
        Machine x = new Machine();
        x.register(b.here("pc"), 0, 1, 0).register(b.here("ap"), 1, 2, 0).register(b.here("fp"), 2, 2, 0);
        Check.due(b.here("rows()"), x.trace.rows(), 0);
        Check.due(b.here("failure()"), x.trace.failure(), 0);
        Check.dueThrow(b.beyond("traced(0, 0)"), NoSuchElementException.class, () -> x.trace.traced(0, 0));
        x.word(0, 0, 0, 0, Flag.OP1_FP | Flag.AP_ONE).steps(b.beyond("the first step"));
        x.register(b.beyond("pc"), 0, 1, 1).register(b.beyond("ap"), 1, 2, 1);
        Check.due(b.beyond("rows()"), x.trace.rows(), 1);
    }

    private static void numbers() {
        Boundary b = new Boundary(4, "NUMBERS are 0 .. P - 1");
        holdsAs(b, true, 0, 0);
        holdsAs(b, true, 1, 1);
        holdsAs(b, true, Flag.P - 2, Flag.P - 2);
        holdsAs(b, true, Flag.P - 1, Flag.P - 1);
        holdsAs(b, false, Flag.P, 0);
        holdsAs(b, false, Flag.P + 1, 1);
        holdsAs(b, false, 2 * Flag.P - 1, Flag.P - 1);
        holdsAs(b, false, 2 * Flag.P, 0);
        holdsAs(b, false, 4 * Flag.P - 1, Flag.P - 1);
        holdsAs(b, false, 4 * Flag.P, 0);
        holdsAs(b, false, Long.MAX_VALUE, 3);
        holdsAs(b, false, -1, Flag.P - 1);
        holdsAs(b, false, 1 - Flag.P, 1);
        holdsAs(b, false, -Flag.P, 0);
        holdsAs(b, false, -Flag.P - 1, Flag.P - 1);
        holdsAs(b, false, -4 * Flag.P, 0);
        holdsAs(b, false, Long.MIN_VALUE, Flag.P - 4);
    }

    private static void holdsAs(Boundary b, boolean here, long given, long held) {
        String name = here ? b.here("number " + given) : b.beyond("number " + given);
        for (int segment : new int[] {1, 2, 5}) {
            Check.dueNoThrow(name, () -> new Machine().number(segment, 0, given).holds(name, segment, 0, 0, held));
        }
    }

    private static void segmentsAndCellsOfNumber() {
        Boundary b = new Boundary(4, "IllegalArgumentException: there is no such segment or cell");
        for (int segment = 1; segment <= 5; segment++) {
            int home = segment;
            Machine x = outputFilled();
            for (int cell : new int[] {0, 63}) {
                Check.dueNoThrow(b.here("number(" + segment + ", " + cell + ", 0)"), () -> x.number(home, cell, 0));
                x.holds(b.here("segment " + segment), segment, cell, 0, 0);
            }
            for (int cell : NO_CELLS) {
                Check.dueThrow(b.beyond("number(" + segment + ", " + cell + ", 0)"), IllegalArgumentException.class,
                        () -> x.trace.number(home, cell, 0));
            }
        }
        for (int segment : NO_SEGMENTS) {
            for (int cell : new int[] {0, 63, -1, 64}) {
                Check.dueThrow(b.beyond("number(" + segment + ", " + cell + ", 0)"), IllegalArgumentException.class,
                        () -> new FieldTrace().number(segment, cell, 0));
            }
        }
    }

    /** OUTPUT set up to cell 62, so that its last cell can be written. */
    private static Machine outputFilled() {
        Machine x = new Machine();
        for (int cell = 0; cell <= 62; cell++) {
            x.number(5, cell, 0);
        }
        return x;
    }

    private static void sameNumber() {
        Boundary b = new Boundary(4, "when it is set, it must be the same value");
        for (int segment = 1; segment <= 5; segment++) {
            int home = segment;
            Machine x = new Machine().number(segment, 0, 5);
            Check.dueNoThrow(b.here("5 on 5"), () -> x.number(home, 0, 5));
            Check.dueNoThrow(b.here("5 + P on 5"), () -> x.number(home, 0, Flag.P + 5));
            Check.dueNoThrow(b.here("5 - P on 5"), () -> x.number(home, 0, 5 - Flag.P));
            for (long other : new long[] {4, 6, 0, -5}) {
                refuses(b.beyond(other + " on 5"), x, home, 0, other);
            }
            x.holds(b.here("what it was"), segment, 0, 0, 5);
        }
        Machine y = new Machine().address(2, 0, 1, 5);
        refuses(b.beyond("5 on the address of cell 5"), y, 2, 0, 5);
        y.holds(b.here("the address as it was"), 2, 0, 1, 5);
        Machine zero = new Machine().number(2, 0, 0);
        Check.dueNoThrow(b.here("0 on 0"), () -> zero.number(2, 0, 0));
        refuses(b.beyond("1 on 0"), zero, 2, 0, 1);
    }

    private static void range() {
        Boundary b = new Boundary(4, "Segment 3, RANGE: only numbers below 65536");
        for (int cell : new int[] {0, 1, 63}) {
            for (long number : new long[] {0, 1, 65534, 65535, Flag.P, Flag.P + 65535}) {
                Check.dueNoThrow(b.here("number(3, " + cell + ", " + number + ")"), () -> new Machine()
                        .number(3, cell, number).holds(b.here("" + number), 3, cell, 0, number % Flag.P));
            }
            for (long number : new long[] {65536, 65537, -1, 1L << 31, 1L << 32, Flag.P - 1, Flag.P + 65536}) {
                Machine x = new Machine();
                refuses(b.beyond("number(3, " + cell + ", " + number + ")"), x, 3, cell, number);
                x.notSet(b.beyond("nothing is set"), 3, cell);
                Check.dueNoThrow(b.here("65535 after it"), () -> x.number(3, cell, 65535));
            }
        }
        for (int segment : new int[] {1, 2, 4, 5}) {
            Check.dueNoThrow(b.beyond("65536 elsewhere"), () -> new Machine().number(segment, 0, 65536));
        }
    }

    private static void bitsOperands() {
        Boundary b = new Boundary(4, "cells 5 k and 5 k + 1 take numbers below 2^60");
        for (int cell : new int[] {0, 1, 5, 6, 55, 56, 60, 61}) {
            for (long number : new long[] {0, BITS_END - 2, BITS_END - 1, Flag.P}) {
                Check.dueNoThrow(b.here("number(4, " + cell + ", " + number + ")"), () -> new Machine()
                        .number(4, cell, number).holds(b.here("" + number), 4, cell, 0, number % Flag.P));
            }
            for (long number : new long[] {BITS_END, BITS_END + 1, Flag.P - 1, -1}) {
                Machine x = new Machine();
                refuses(b.beyond("number(4, " + cell + ", " + number + ")"), x, 4, cell, number);
                x.notSet(b.beyond("nothing is set"), 4, cell);
            }
        }
    }

    private static void bitsBehindOperands() {
        Boundary b = new Boundary(4, "Cells 5 k + 2 to 5 k + 4 can be written otherwise, too");
        for (int cell : new int[] {2, 3, 4, 7, 57, 58, 59, 62, 63}) {
            for (long number : new long[] {0, BITS_END - 1, BITS_END, Flag.P - 1}) {
                Check.dueNoThrow(b.here("number(4, " + cell + ", " + number + ")"), () -> new Machine()
                        .number(4, cell, number).holds(b.here("" + number), 4, cell, 0, number));
            }
            Check.dueNoThrow(b.here("an address in cell " + cell), () -> new Machine().address(4, cell, 4, 1000)
                    .holds(b.here("an address in cell " + cell), 4, cell, 4, 1000));
        }
        for (int cell : new int[] {5, 10, 60}) {
            refuses(b.beyond("the cell behind them"), new Machine(), 4, cell, BITS_END);
        }
        for (int operand = 5; operand <= 6; operand++) {
            for (int behind = 7; behind <= 9; behind++) {
                Machine one = new Machine().number(4, operand, 12).number(4, behind, 8);
                for (int cell = 5; cell <= 9; cell++) {
                    if (cell != operand && cell != behind) {
                        one.notSet(b.here("one operand and cell " + behind), 4, cell);
                    }
                }
            }
        }
        Machine x = new Machine().number(4, 0, 3).number(4, 1, 5);
        Check.dueNoThrow(b.here("x & y once more"), () -> x.number(4, 2, 1));
        refuses(b.beyond("another x & y"), x, 4, 2, 2);
        refuses(b.beyond("another x ^ y"), x, 4, 3, 7);
        refuses(b.beyond("another x | y"), x, 4, 4, 6);
    }

    private static void bitsAreSet() {
        Boundary b = new Boundary(4, "when both are set, the three behind them are set");
        long top = BITS_END - 1;
        long[][] pairs = {{12, 10}, {0, 0}, {top, 0}, {0, top}, {top, top}, {1, top - 1}, {1L << 59, 1L << 59}};
        for (int first : new int[] {0, 5, 50, 55}) {
            for (long[] pair : pairs) {
                for (int earlier = 0; earlier <= 1; earlier++) {
                    Machine x = new Machine().number(4, first + earlier, pair[earlier]);
                    for (int behind = 2; behind <= 4; behind++) {
                        x.notSet(b.here("one is set"), 4, first + behind);
                    }
                    x.notSet(b.here("the other is not set"), 4, first + 1 - earlier);
                    x.number(4, first + 1 - earlier, pair[1 - earlier]);
                    x.holds(b.beyond("x & y"), 4, first + 2, 0, pair[0] & pair[1]);
                    x.holds(b.beyond("x ^ y"), 4, first + 3, 0, pair[0] ^ pair[1]);
                    x.holds(b.beyond("x | y"), 4, first + 4, 0, pair[0] | pair[1]);
                    x.notSet(b.here("the cell behind the three"), 4, first + 5);
                }
            }
        }
        Machine x = new Machine().number(4, 1, 3).number(4, 5, 3);
        x.notSet(b.here("two of different groups"), 4, 2).notSet(b.here("two of different groups"), 4, 7);
    }

    private static void bitsAtTheEnd() {
        Boundary b = new Boundary(4, "(if 5 k + 4 is a cell)");
        for (int earlier = 0; earlier <= 1; earlier++) {
            Machine last = new Machine().number(4, 55 + earlier, 12).number(4, 56 - earlier, 10);
            last.holds(b.here("cell 57"), 4, 57, 0, 8).holds(b.here("cell 58"), 4, 58, 0, 6)
                    .holds(b.here("cell 59"), 4, 59, 0, 14);
            int cell = 60 + earlier;
            Machine x = new Machine();
            Check.dueNoThrow(b.beyond("60 and 61 are written"), () -> x.number(4, cell, 12).number(4, 121 - cell, 10));
            x.notSet(b.beyond("cell 62"), 4, 62).notSet(b.beyond("cell 63"), 4, 63);
            x.holds(b.beyond("cell 60"), 4, 60, 0, earlier == 0 ? 12 : 10);
            Machine y = new Machine().number(4, 62, 99).number(4, 63, 98).number(4, cell, 12);
            Check.dueNoThrow(b.beyond("62 and 63 hold what they like"), () -> y.number(4, 121 - cell, 10));
            y.holds(b.beyond("cell 62 as it was"), 4, 62, 0, 99).holds(b.beyond("cell 63 as it was"), 4, 63, 0, 98);
        }
    }

    private static void bitsSetOtherwise() {
        Boundary b = new Boundary(4, "when one of these is set to another value, the later of the two can't be written");
        long[] due = {12, 10, 8, 6, 14};
        for (int first : new int[] {0, 55}) {
            for (int behind = 2; behind <= 4; behind++) {
                for (int later = 0; later <= 1; later++) {
                    int cell = first + later;
                    int earlier = first + 1 - later;
                    Machine same = new Machine().number(4, first + behind, due[behind]).number(4, earlier, due[1 - later]);
                    long number = due[later];
                    Check.dueNoThrow(b.here("the same value"), () -> same.number(4, cell, number));
                    for (int other = 0; other <= 4; other++) {
                        same.holds(b.here("the group"), 4, first + other, 0, due[other]);
                    }
                    for (long change : new long[] {-1, 1}) {
                        Machine x = new Machine().number(4, first + behind, due[behind] + change)
                                .number(4, earlier, due[1 - later]);
                        refuses(b.beyond("another value"), x, 4, cell, number);
                        onlyTheseTwo(b, x, first, earlier, first + behind);
                    }
                    Machine z = new Machine().address(4, first + behind, 4, (int) due[behind])
                            .number(4, earlier, due[1 - later]);
                    refuses(b.beyond("an address"), z, 4, cell, number);
                    onlyTheseTwo(b, z, first, earlier, first + behind);
                }
            }
        }
        Machine x = new Machine().number(4, 3, 6).number(4, 0, 12);
        refuses(b.beyond("12 ^ 11 is not 6"), x, 4, 1, 11);
        Check.dueNoThrow(b.here("12 ^ 10 is 6"), () -> x.number(4, 1, 10));
    }

    private static void onlyTheseTwo(Boundary b, Machine x, int first, int one, int two) {
        for (int cell = first; cell < first + 5; cell++) {
            if (cell != one && cell != two) {
                x.notSet(b.beyond("nothing is set"), 4, cell);
            }
        }
    }

    private static void output() {
        Boundary b = new Boundary(4, "Segment 5, OUTPUT: cell k can be written only when all cells before it are set");
        Machine x = new Machine();
        for (int cell = 0; cell <= 63; cell++) {
            int next = cell;
            for (int later : new int[] {cell + 1, 63}) {
                if (later > cell && later <= 63) {
                    refuses(b.beyond("cell " + later + " before " + cell), x, 5, later, 1);
                }
            }
            Check.dueNoThrow(b.here("cell " + cell + " in its turn"), () -> x.number(5, next, 1));
            x.holds(b.here("cell " + cell), 5, cell, 0, 1);
        }
        Machine y = new Machine().address(5, 0, 5, 0);
        Check.dueNoThrow(b.here("an address in its turn"), () -> y.address(5, 1, 5, 0));
        Check.dueNoThrow(b.here("cell 0 once more"), () -> y.address(5, 0, 5, 0));
        refusesAddress(b.beyond("an address out of its turn"), y, 5, 3, 5, 0);
        y.notSet(b.beyond("nothing is set"), 5, 3).notSet(b.beyond("nothing is set"), 5, 2);
    }

    private static void segmentsAndCellsOfAddress() {
        Boundary b = new Boundary(5, "IllegalArgumentException: no such segment or cell");
        for (int segment : new int[] {1, 2, 4, 5}) {
            Machine x = segment == 5 ? outputFilled() : new Machine();
            int lowest = segment == 4 ? 2 : segment == 5 ? 63 : 0;
            for (int cell : new int[] {lowest, 63}) {
                Check.dueNoThrow(b.here("address(" + segment + ", " + cell + ", 1, 0)"),
                        () -> x.address(segment, cell, 1, 0));
                x.holds(b.here("segment " + segment), segment, cell, 1, 0);
            }
        }
        Check.dueNoThrow(b.here("address(5, 0, 1, 0)"), () -> new Machine().address(5, 0, 1, 0));
        for (int segment = 1; segment <= 5; segment++) {
            int home = segment;
            for (int cell : NO_CELLS) {
                Check.dueThrow(b.beyond("address(" + segment + ", " + cell + ", 1, 0)"),
                        IllegalArgumentException.class, () -> new FieldTrace().address(home, cell, 1, 0));
            }
        }
        for (int segment : NO_SEGMENTS) {
            for (int cell : new int[] {0, 63, -1, 64}) {
                Check.dueThrow(b.beyond("address(" + segment + ", " + cell + ", 1, 0)"),
                        IllegalArgumentException.class, () -> new FieldTrace().address(segment, cell, 1, 0));
            }
        }
    }

    private static void addresses() {
        Boundary b = new Boundary(5, "an ADDRESS: a segment and a cell -1000 .. 1000 of it (which need not be there)");
        for (int target = 1; target <= 5; target++) {
            int to = target;
            for (int at : new int[] {-1000, -999, -1, 0, 63, 64, 999, 1000}) {
                String name = b.here("address(2, 0, " + target + ", " + at + ")");
                Check.dueNoThrow(name, () -> new Machine().address(2, 0, to, at).holds(name, 2, 0, to, at));
            }
            for (int at : new int[] {-1001, 1001, -2048, 1048, 2048, Integer.MIN_VALUE, Integer.MAX_VALUE}) {
                isNoAddress(b, target, at);
            }
        }
        for (int target : NO_SEGMENTS) {
            for (int at : new int[] {-1000, 0, 1000, -1001, 1001}) {
                isNoAddress(b, target, at);
            }
        }
    }

    /** Refused as an argument even where no address can be written. */
    private static void isNoAddress(Boundary b, int target, int at) {
        for (int segment : new int[] {2, 3, 4, 5}) {
            Machine x = new Machine();
            int cell = segment == 5 ? 1 : 0;
            String name = b.beyond("address(" + segment + ", " + cell + ", " + target + ", " + at + ")");
            Check.dueThrow(name, IllegalArgumentException.class, () -> x.address(segment, cell, target, at));
            x.notSet(name, segment, cell);
        }
    }

    private static void sameAddress() {
        Boundary b = new Boundary(5, "when it is set, it must be the same value");
        Machine x = new Machine().address(2, 9, 3, -7);
        Check.dueNoThrow(b.here("the same address"), () -> x.address(2, 9, 3, -7));
        refusesAddress(b.beyond("the cell before"), x, 2, 9, 3, -8);
        refusesAddress(b.beyond("the cell behind"), x, 2, 9, 3, -6);
        refusesAddress(b.beyond("the segment before"), x, 2, 9, 2, -7);
        refusesAddress(b.beyond("the segment behind"), x, 2, 9, 4, -7);
        refuses(b.beyond("the number of its cell"), x, 2, 9, -7);
        x.holds(b.here("what it was"), 2, 9, 3, -7);
        Machine y = new Machine().number(2, 9, 7);
        refusesAddress(b.beyond("an address on a number"), y, 2, 9, 1, 7);
        y.holds(b.here("the number as it was"), 2, 9, 0, 7);
    }

    private static void addressesThatCannotBe() {
        Boundary b = new Boundary(5, "IllegalStateException: it can't be");
        for (int cell : new int[] {0, 63}) {
            refusesAddress(b.beyond("into RANGE"), new Machine(), 3, cell, 1, 0);
        }
        for (int cell : new int[] {0, 1, 5, 6, 55, 56, 60, 61}) {
            refusesAddress(b.beyond("into BITS"), new Machine(), 4, cell, 1, 0);
            int behind = cell - cell % 5 + 2;
            Check.dueNoThrow(b.here("behind the operands"), () -> new Machine().address(4, behind, 1, 0));
        }
        for (int cell : new int[] {1, 2, 63}) {
            refusesAddress(b.beyond("into OUTPUT"), new Machine(), 5, cell, 1, 0);
        }
        Check.dueNoThrow(b.here("into OUTPUT, cell 0"), () -> new Machine().address(5, 0, 1, 0));
    }

    private static void looks(int promise, boolean segmentAsked) {
        Boundary b = new Boundary(promise, segmentAsked
                ? "IllegalArgumentException: no such segment or cell; NoSuchElementException: it is not set"
                : "As for segment");
        for (int segment = 1; segment <= 5; segment++) {
            int home = segment;
            FieldTrace x = outputFilled().number(segment, 0, 0).number(segment, 63, 0).trace;
            for (int cell : new int[] {0, 63}) {
                Check.dueAnswer(b.here("cell " + cell), 0, () -> look(x, segmentAsked, home, cell));
                Check.dueThrow(b.beyond("not set"), NoSuchElementException.class,
                        () -> look(new FieldTrace(), segmentAsked, home, cell));
            }
            for (int cell : NO_CELLS) {
                Check.dueThrow(b.beyond("cell " + cell), IllegalArgumentException.class,
                        () -> look(x, segmentAsked, home, cell));
            }
        }
        for (int cell : new int[] {9, 11}) {
            FieldTrace x = new Machine().number(2, 10, 4).trace;
            Check.dueThrow(b.beyond("beside what is set"), NoSuchElementException.class,
                    () -> look(x, segmentAsked, 2, cell));
        }
        for (int segment : NO_SEGMENTS) {
            for (int cell : new int[] {0, 63, -1, 64}) {
                Check.dueThrow(b.beyond("segment " + segment), IllegalArgumentException.class,
                        () -> look(outputFilled().trace, segmentAsked, segment, cell));
            }
        }
    }

    private static long look(FieldTrace x, boolean segmentAsked, int segment, int cell) {
        return segmentAsked ? x.segment(segment, cell) : x.value(segment, cell);
    }

    private static void numberOrAddress() {
        Boundary b = new Boundary(10, "The segment of the address in a cell, 0 when it holds a number");
        Boundary c = new Boundary(11, "The number in a cell, or the cell of the address in it");
        for (long number : new long[] {0, 1, 5, Flag.P - 1}) {
            FieldTrace x = new Machine().number(1, 0, number).trace;
            Check.dueAnswer(b.here("number " + number), 0, () -> x.segment(1, 0));
            Check.dueAnswer(c.here("number " + number), number, () -> x.value(1, 0));
        }
        for (int segment = 1; segment <= 5; segment++) {
            for (int at : new int[] {-1000, -1, 0, 1000}) {
                FieldTrace x = new Machine().address(1, 0, segment, at).trace;
                Check.dueAnswer(b.beyond("address of segment " + segment), segment, () -> x.segment(1, 0));
                Check.dueAnswer(c.beyond("address of cell " + at), at, () -> x.value(1, 0));
            }
        }
    }

    private static void refuses(String name, Machine x, int segment, int cell, long number) {
        Check.dueThrow(name, IllegalStateException.class, () -> x.trace.number(segment, cell, number));
    }

    private static void refusesAddress(String name, Machine x, int segment, int cell, int target, int at) {
        Check.dueThrow(name, IllegalStateException.class, () -> x.trace.address(segment, cell, target, at));
    }
}
