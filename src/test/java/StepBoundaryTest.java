/** The boundaries of a step, promises 7 and 8: its places, what it needs and writes, and where it leads. */
public final class StepBoundaryTest {
    private static final int LOAD = Flag.ASSERT | Flag.OP1_PC;
    private static final int ADD = Flag.ASSERT | Flag.SUM | Flag.OP1_FP;
    private static final long BITS_END = 1L << 60;

    public static void main(String[] args) {
        cellsOfInstructions();
        wordsOfInstructions();
        placesOfDstAndOp0();
        placesOfOp1();
        placeOfOp1FromOp0();
        sizes();
        callSaves();
        deduced();
        resWhereNeeded();
        whatIsNeeded();
        cellsWritten();
        sameValueWritten();
        rangeWritten();
        bitsWritten();
        outputWritten();
        jumpsToRes();
        jumpsByRes();
        jumpsUnlessZero();
        apPlusRes();
        apPlusOneAndTwo();
        returns();
        otherwiseAsItWas();
        orderOfFailures();
        whatStays();
        Boundary.end();
    }

    private static void cellsOfInstructions() {
        Boundary b = new Boundary(7, "the instruction is the number in the cell at pc");
        for (int cell : new int[] {0, 63}) {
            new Machine().word(cell, 0, 0, 0, Flag.OP1_FP).start(cell, 0, 0).steps(b.here("in cell " + cell))
                    .register(b.here("in cell " + cell), 0, 1, cell + 1);
            new Machine().start(cell, 0, 0).fails(b.beyond("cell " + cell + " is not set"), 1);
        }
        new Machine().word(63, 0, 0, 0, Flag.OP1_FP).start(63, 0, 0).steps(b.here("in cell 63"))
                .fails(b.beyond("in cell 64"), 1);
        for (int segment = 1; segment <= 5; segment++) {
            for (int cell : new int[] {-1000, -1, 64, 1000}) {
                new Machine().word(0, 0, 0, 1, Flag.OP1_PC | Flag.JUMP_TO).address(1, 1, segment, cell)
                        .steps(b.here("a jump")).fails(b.beyond("in cell " + cell + " of " + segment), 1)
                        .register(b.beyond("it stays there"), 0, segment, cell);
            }
        }
        Machine output = new Machine().word(0, 0, 0, 1, Flag.OP1_PC | Flag.JUMP_TO).address(1, 1, 5, 0);
        output.number(5, 0, output.trace.encode(0, 0, 0, Flag.OP1_FP | Flag.AP_ONE));
        output.steps(b.here("a jump into OUTPUT")).steps(b.here("a step there")).register(b.here("behind it"), 0, 5, 1);
    }

    private static void wordsOfInstructions() {
        Boundary b = new Boundary(8, "3 the instruction is no number, or bad");
        long end = 1L << 45;
        long good = new FieldTrace().encode(511, 511, 511, Flag.OP1_FP | Flag.AP_ONE);
        new Machine().number(1, 0, good).steps(b.here("a good one"));
        new Machine().number(1, 0, 0).fails(b.here("0 is good, but lacks OP0"), 1);
        for (long word : new long[] {end, end + good, 2 * end + good, end - 1, -1, Flag.P - 1}) {
            new Machine().number(1, 0, word).fails(b.beyond("word " + word), 3);
        }
        for (int cell : new int[] {-1000, 0, 1000}) {
            new Machine().address(1, 0, 1, cell).fails(b.beyond("an address"), 3);
        }
        new Machine().word(0, 0, 0, 1, Flag.OP1_PC).steps(b.here("OP1 behind pc by 1"));
        new Machine().word(0, 0, 0, 0, Flag.OP1_PC).fails(b.beyond("OP1 behind pc by 0"), 3);
        new Machine().word(0, 0, 0, 2, Flag.OP1_PC).fails(b.beyond("OP1 behind pc by 2"), 3);
    }

    private static void placesOfDstAndOp0() {
        Boundary b = new Boundary(7, "The place of DST is ap or fp plus its offset, that of OP0 likewise");
        int[][] reached = {{1000, 0}, {999, 1}, {489, 511}, {-1000, 0}, {-999, -1}, {-488, -512}};
        int[][] missed = {{1000, 1}, {490, 511}, {1000, 511}, {-1000, -1}, {-489, -512}, {-1000, -512}};
        for (int[] it : reached) {
            String name = b.here(it[0] + " plus " + it[1]);
            Machine.apAt(it[0]).word(2, it[1], 0, 0, Flag.OP1_FP | Flag.OP0_FP).steps(name);
            Machine.apAt(it[0]).word(2, 0, it[1], 0, Flag.OP1_FP | Flag.DST_FP).steps(name);
            Machine.fpAt(2, it[0]).word(2, it[1], 0, 0, Flag.OP1_AP | Flag.DST_FP).steps(name);
            Machine.fpAt(2, it[0]).word(2, 0, it[1], 0, Flag.OP1_AP | Flag.OP0_FP).steps(name);
        }
        for (int[] it : missed) {
            String name = b.beyond(it[0] + " plus " + it[1]);
            Machine.apAt(it[0]).word(2, it[1], 0, 0, Flag.OP1_FP | Flag.OP0_FP).fails(name, 4);
            Machine.apAt(it[0]).word(2, 0, it[1], 0, Flag.OP1_FP | Flag.DST_FP).fails(name, 4);
            Machine.fpAt(2, it[0]).word(2, it[1], 0, 0, Flag.OP1_AP | Flag.DST_FP).fails(name, 4);
            Machine.fpAt(2, it[0]).word(2, 0, it[1], 0, Flag.OP1_AP | Flag.OP0_FP).fails(name, 4);
        }
    }

    private static void placesOfOp1() {
        Boundary b = new Boundary(7, "The place of OP1: pc, fp, ap");
        int[][] reached = {{1000, 0}, {489, 511}, {-1000, 0}, {-488, -512}};
        int[][] missed = {{1000, 1}, {490, 511}, {-1000, -1}, {-489, -512}};
        for (int[] it : reached) {
            String name = b.here(it[0] + " plus " + it[1]);
            Machine.apAt(it[0]).word(2, 0, 0, it[1], Flag.OP1_AP).steps(name);
            Machine.fpAt(2, it[0]).word(2, 0, 0, it[1], Flag.OP1_FP).steps(name);
        }
        for (int[] it : missed) {
            String name = b.beyond(it[0] + " plus " + it[1]);
            Machine.apAt(it[0]).word(2, 0, 0, it[1], Flag.OP1_AP).fails(name, 4);
            Machine.fpAt(2, it[0]).word(2, 0, 0, it[1], Flag.OP1_FP).fails(name, 4);
        }
        new Machine().word(62, 0, 0, 1, LOAD).number(1, 63, 5).start(62, 0, 0).steps(b.here("behind pc, cell 63"))
                .holds(b.here("behind pc, cell 63"), 2, 0, 0, 5);
        new Machine().word(63, 0, 0, 1, LOAD).start(63, 0, 0).fails(b.beyond("behind pc, cell 64"), 1);
        new Machine().word(63, 0, 0, 1, Flag.OP1_PC).start(63, 0, 0).steps(b.here("behind pc, not needed"))
                .register(b.here("behind pc, not needed"), 0, 1, 65);
    }

    private static void placeOfOp1FromOp0() {
        Boundary b = new Boundary(7, "or the value at the place of OP0 (which must be an address), plus its offset");
        int[][] reached = {{1000, 0}, {489, 511}, {-1000, 0}, {-488, -512}, {7, -3}};
        int[][] missed = {{1000, 1}, {490, 511}, {-1000, -1}, {-489, -512}};
        for (int[] it : reached) {
            new Machine().word(0, 0, 5, it[1], 0).address(2, 5, 3, it[0]).steps(b.here(it[0] + " plus " + it[1]));
        }
        for (int[] it : missed) {
            new Machine().word(0, 0, 5, it[1], 0).address(2, 5, 3, it[0])
                    .fails(b.beyond(it[0] + " plus " + it[1]), 4);
        }
        new Machine().word(0, 0, 5, 0, 0).number(2, 5, 7).fails(b.beyond("a number"), 4);
        new Machine().word(0, 0, 5, 0, 0).fails(b.beyond("not set"), 1);
        for (int cell : new int[] {0, 63}) {
            new Machine().word(0, 0, cell - 20, 0, 0).address(2, cell, 1, 0).start(0, 20, 40)
                    .steps(b.here("OP0 in cell " + cell));
        }
        for (int cell : new int[] {-1, 64}) {
            new Machine().word(0, 0, cell - 20, 0, 0).start(0, 20, 40).fails(b.beyond("OP0 in cell " + cell), 1);
        }
    }

    private static void sizes() {
        Boundary b = new Boundary(7, "the instruction's SIZE (2 when 32 is set, else 1)");
        new Machine().word(0, 0, 0, 1, Flag.OP1_PC).steps(b.here("with 32")).register(b.here("with 32"), 0, 1, 2);
        for (int flags : new int[] {Flag.OP1_FP, Flag.OP1_AP}) {
            new Machine().word(0, 0, 0, 1, flags).steps(b.beyond("without 32"))
                    .register(b.beyond("without 32"), 0, 1, 1);
        }
        new Machine().word(0, 0, 0, 1, 0).address(2, 0, 1, 0).steps(b.beyond("from OP0"))
                .register(b.beyond("from OP0"), 0, 1, 1);
        new Machine().word(62, 0, 0, 0, Flag.OP1_FP).start(62, 0, 0).steps(b.beyond("to cell 63"))
                .register(b.beyond("to cell 63"), 0, 1, 63);
        new Machine().word(62, 0, 0, 1, Flag.OP1_PC).start(62, 0, 0).steps(b.here("past cell 63"))
                .register(b.here("past cell 63"), 0, 1, 64);
    }

    private static void callSaves() {
        Boundary b = new Boundary(7, "CALL: fp is written to the place of DST, and pc plus the instruction's SIZE");
        for (int[] it : new int[][] {{0, 1}, {62, 63}, {63, 0}}) {
            String name = b.here("DST in cell " + it[0] + ", OP0 in cell " + it[1]);
            new Machine().word(9, it[0] - 20, it[1] - 20, 0, Flag.OP1_FP | Flag.CALL).start(9, 20, 40).steps(name)
                    .holds(name, 2, it[0], 2, 40).holds(name, 2, it[1], 1, 10);
        }
        for (int cell : new int[] {-1, 64}) {
            String name = b.beyond("DST in cell " + cell);
            new Machine().word(9, cell - 20, 5, 0, Flag.OP1_FP | Flag.CALL).start(9, 20, 40).fails(name, 2)
                    .notSet(name, 2, 25);
            name = b.beyond("OP0 in cell " + cell);
            new Machine().word(9, 5, cell - 20, 0, Flag.OP1_FP | Flag.CALL).start(9, 20, 40).fails(name, 2)
                    .holds(name, 2, 25, 2, 40);
        }
        new Machine().word(63, 0, 1, 1, Flag.OP1_PC | Flag.CALL).start(63, 20, 40).steps(b.here("a size of 2"))
                .holds(b.here("a size of 2"), 2, 21, 1, 65);
        new Machine().word(9, 0, 1, 0, Flag.OP1_FP | Flag.CALL).address(2, 20, 2, 40).address(2, 21, 1, 10)
                .start(9, 20, 40).steps(b.here("the same is there"));
        new Machine().word(9, 0, 1, 0, Flag.OP1_FP | Flag.CALL).address(2, 20, 2, 41).start(9, 20, 40)
                .fails(b.beyond("another fp is there"), 2).notSet(b.beyond("another fp is there"), 2, 21);
        new Machine().word(9, 0, 1, 0, Flag.OP1_FP | Flag.CALL).address(2, 21, 1, 11).start(9, 20, 40)
                .fails(b.beyond("another pc is there"), 2).holds(b.beyond("another pc is there"), 2, 20, 2, 40);
    }

    private static void deduced() {
        Boundary b = new Boundary(7, "when just one of OP0 and OP1 is set, the other one is deduced");
        new Machine().word(0, 0, 1, 1, ADD).number(2, 20, 9).start(0, 20, 40).fails(b.beyond("none is set"), 1)
                .notSet(b.beyond("none is set"), 2, 21).notSet(b.beyond("none is set"), 2, 41);
        new Machine().word(0, 0, 1, 1, ADD).number(2, 20, 9).number(2, 21, 4).start(0, 20, 40)
                .steps(b.here("OP0 is set")).holds(b.here("OP0 is set"), 2, 41, 0, 5);
        new Machine().word(0, 0, 1, 1, ADD).number(2, 20, 9).number(2, 41, 4).start(0, 20, 40)
                .steps(b.here("OP1 is set")).holds(b.here("OP1 is set"), 2, 21, 0, 5);
        new Machine().word(0, 0, 1, 1, ADD).number(2, 20, 9).number(2, 21, 4).number(2, 41, 5).start(0, 20, 40)
                .steps(b.beyond("both are set, and agree"));
        new Machine().word(0, 0, 1, 1, ADD).number(2, 20, 9).number(2, 21, 4).number(2, 41, 6).start(0, 20, 40)
                .fails(b.beyond("both are set, and do not agree"), 2);
        new Machine().word(0, 0, 1, 1, ADD).number(2, 21, 4).start(0, 20, 40).fails(b.beyond("DST is not set"), 1)
                .notSet(b.beyond("DST is not set"), 2, 41);
        new Machine().word(0, 0, 1, 1, ADD).number(2, 20, 9).number(2, 21, 4).start(0, 20, 62)
                .steps(b.here("OP1 in cell 63")).holds(b.here("OP1 in cell 63"), 2, 63, 0, 5);
        new Machine().word(0, 0, 1, 1, ADD).number(2, 20, 9).number(2, 21, 4).start(0, 20, 63)
                .fails(b.beyond("OP1 in cell 64"), 2);
        for (int cell : new int[] {0, 63}) {
            new Machine().word(0, 0, cell - 20, 1, ADD).number(2, 20, 9).number(2, 41, 4).start(0, 20, 40)
                    .steps(b.here("OP0 in cell " + cell)).holds(b.here("OP0 in cell " + cell), 2, cell, 0, 5);
        }
        for (int cell : new int[] {-1, 64}) {
            new Machine().word(0, 0, cell - 20, 1, ADD).number(2, 20, 9).number(2, 41, 4).start(0, 20, 40)
                    .fails(b.beyond("OP0 in cell " + cell), 2);
        }
        new Machine().word(0, 0, 1, 1, Flag.SUM | Flag.OP1_FP | Flag.JUMP_BY).number(2, 20, 9).number(2, 21, 4)
                .start(0, 20, 40).fails(b.beyond("without ASSERT"), 1).notSet(b.beyond("without ASSERT"), 2, 41);
        new Machine().word(0, 0, 1, 1, Flag.ASSERT | Flag.OP1_FP).number(2, 20, 9).number(2, 21, 4).start(0, 20, 40)
                .fails(b.beyond("neither a sum nor a product"), 1).notSet(b.beyond("neither"), 2, 41);
    }

    private static void resWhereNeeded() {
        Boundary b = new Boundary(7, "Where RES is not needed, by ASSERT, 37, 38 or 40, it is not looked for");
        for (int kind : new int[] {0, Flag.SUM, Flag.PRODUCT}) {
            for (int deed : new int[] {0, Flag.AP_ONE, Flag.CALL}) {
                new Machine().word(0, 0, 1, 1, Flag.OP1_FP | kind | deed).start(0, 20, 40)
                        .steps(b.here("not set, flags " + (kind | deed)));
            }
            new Machine().word(0, 0, 1, 1, Flag.OP1_FP | kind | Flag.RETURN).address(2, 20, 2, 0).start(0, 20, 40)
                    .steps(b.here("not set, RETURN"));
            for (int deed : new int[] {Flag.ASSERT, Flag.JUMP_TO, Flag.JUMP_BY, Flag.AP_RES}) {
                new Machine().word(0, 0, 1, 1, Flag.OP1_FP | kind | deed).start(0, 20, 40)
                        .fails(b.beyond("not set, flags " + (kind | deed)), 1);
            }
        }
        for (int kind : new int[] {Flag.SUM, Flag.PRODUCT}) {
            new Machine().word(0, 0, 1, 1, Flag.OP1_FP | kind).address(2, 21, 2, 0).address(2, 41, 2, 0)
                    .start(0, 20, 40).steps(b.here("can't be reckoned"));
            new Machine().word(0, 0, 1, 1, Flag.OP1_FP | kind | Flag.AP_RES).address(2, 21, 2, 0).address(2, 41, 2, 0)
                    .start(0, 20, 40).fails(b.beyond("can't be reckoned"), 4);
        }
    }

    private static void whatIsNeeded() {
        Boundary b = new Boundary(8, "1 a cell that is needed is not set (or not there)");
        for (int cell : new int[] {0, 63}) {
            int offset = cell - 20;
            new Machine().word(0, 0, 0, offset, Flag.OP1_AP | Flag.ASSERT).number(2, cell, 5).start(0, 20, 40)
                    .steps(b.here("OP1 in cell " + cell));
            new Machine().word(0, 0, 0, offset, Flag.OP1_AP | Flag.ASSERT).start(0, 20, 40)
                    .fails(b.beyond("OP1 in cell " + cell + " not set"), 1);
            new Machine().word(0, 0, offset, 1, Flag.OP1_PC | Flag.SUM | Flag.JUMP_BY).number(1, 1, 5)
                    .number(2, cell, 5).start(0, 20, 40).steps(b.here("OP0 in cell " + cell));
            new Machine().word(0, 0, offset, 1, Flag.OP1_PC | Flag.SUM | Flag.JUMP_BY).number(1, 1, 5)
                    .start(0, 20, 40).fails(b.beyond("OP0 in cell " + cell + " not set"), 1);
            new Machine().word(0, offset, 0, 0, Flag.OP1_FP | Flag.RETURN).address(2, cell, 2, 0).start(0, 20, 40)
                    .steps(b.here("DST in cell " + cell));
            new Machine().word(0, offset, 0, 0, Flag.OP1_FP | Flag.RETURN).start(0, 20, 40)
                    .fails(b.beyond("DST in cell " + cell + " not set"), 1);
        }
        for (int cell : new int[] {-1, 64}) {
            int offset = cell - 20;
            new Machine().word(0, 0, 0, offset, Flag.OP1_AP | Flag.ASSERT).start(0, 20, 40)
                    .fails(b.beyond("OP1 in cell " + cell), 1);
            new Machine().word(0, 0, offset, 1, Flag.OP1_PC | Flag.SUM | Flag.JUMP_BY).number(1, 1, 5)
                    .start(0, 20, 40).fails(b.beyond("OP0 in cell " + cell), 1);
            new Machine().word(0, offset, 0, 0, Flag.OP1_FP | Flag.RETURN).start(0, 20, 40)
                    .fails(b.beyond("DST in cell " + cell), 1);
            new Machine().word(0, offset, 0, 1, Flag.OP1_PC | Flag.JUMP_UNLESS).number(1, 1, 5).start(0, 20, 40)
                    .fails(b.beyond("DST in cell " + cell + " for 39"), 1);
        }
    }

    private static void cellsWritten() {
        Boundary b = new Boundary(8, "there must be such a cell (0 .. 63)");
        for (int cell : new int[] {0, 63}) {
            String name = b.here("cell " + cell);
            new Machine().word(0, cell - 20, 0, 1, LOAD).number(1, 1, 5).start(0, 20, 40).steps(name)
                    .holds(name, 2, cell, 0, 5);
            Machine.fpAt(3, cell).word(2, 0, 0, 1, LOAD | Flag.DST_FP).number(1, 3, 5).steps(name)
                    .holds(name, 3, cell, 0, 5);
        }
        for (int cell : new int[] {-1, 64}) {
            String name = b.beyond("cell " + cell);
            new Machine().word(0, cell - 20, 0, 1, LOAD).number(1, 1, 5).start(0, 20, 40).fails(name, 2)
                    .notSet(name, 2, 0).notSet(name, 2, 63).notSet(name, 3, 0);
            for (int segment = 1; segment <= 5; segment++) {
                Machine.fpAt(segment, cell).word(2, 0, 0, 1, LOAD | Flag.DST_FP).number(1, 3, 5).fails(name, 2);
            }
        }
        for (int cell : new int[] {-1000, 1000}) {
            Machine.fpAt(2, cell).word(2, 0, 0, 1, LOAD | Flag.DST_FP).number(1, 3, 5)
                    .fails(b.beyond("cell " + cell), 2);
        }
    }

    private static void sameValueWritten() {
        Boundary b = new Boundary(8, "it is another one than the cell has");
        new Machine().word(0, 0, 0, 1, LOAD).number(1, 1, 5).number(2, 0, 5).steps(b.here("5 on 5"));
        new Machine().word(0, 0, 0, 1, LOAD).number(1, 1, 5).number(2, 0, 4).fails(b.beyond("5 on 4"), 2);
        new Machine().word(0, 0, 0, 1, LOAD).number(1, 1, 5).number(2, 0, 6).fails(b.beyond("5 on 6"), 2)
                .holds(b.beyond("5 on 6"), 2, 0, 0, 6);
        new Machine().word(0, 0, 0, 1, LOAD).number(1, 1, 5).address(2, 0, 2, 5).fails(b.beyond("5 on an address"), 2);
        new Machine().word(0, 0, 0, 1, LOAD).address(1, 1, 2, 5).address(2, 0, 2, 5).steps(b.here("an address"));
        new Machine().word(0, 0, 0, 1, LOAD).address(1, 1, 2, 5).address(2, 0, 2, 6).fails(b.beyond("its cell"), 2);
        new Machine().word(0, 0, 0, 1, LOAD).address(1, 1, 2, 5).address(2, 0, 3, 5).fails(b.beyond("its segment"), 2);
        new Machine().word(0, 0, 0, 1, LOAD).address(1, 1, 2, 5).number(2, 0, 5).fails(b.beyond("a number"), 2);
    }

    private static void rangeWritten() {
        Boundary b = new Boundary(8, "Segment 3, RANGE: only numbers below 65536");
        for (int cell : new int[] {0, 63}) {
            for (long number : new long[] {0, 65535}) {
                String name = b.here(number + " in cell " + cell);
                Machine.fpAt(3, cell).word(2, 0, 0, 1, LOAD | Flag.DST_FP).number(1, 3, number).steps(name)
                        .holds(name, 3, cell, 0, number);
            }
            for (long number : new long[] {65536, -1}) {
                String name = b.beyond(number + " in cell " + cell);
                Machine.fpAt(3, cell).word(2, 0, 0, 1, LOAD | Flag.DST_FP).number(1, 3, number).fails(name, 2)
                        .notSet(name, 3, cell);
            }
            Machine.fpAt(3, cell).word(2, 0, 0, 1, LOAD | Flag.DST_FP).address(1, 3, 3, 0)
                    .fails(b.beyond("an address"), 2).notSet(b.beyond("an address"), 3, cell);
        }
        Machine.fpAt(3, 0).word(2, 0, 5, 0, Flag.CALL | Flag.OP1_FP | Flag.DST_FP).fails(b.beyond("fp by CALL"), 2)
                .notSet(b.beyond("fp by CALL"), 2, 5);
    }

    private static void bitsWritten() {
        Boundary b = new Boundary(8, "Segment 4, BITS: cells 5 k and 5 k + 1 take numbers below 2^60");
        for (int cell : new int[] {0, 1, 60, 61}) {
            Machine.fpAt(4, cell).word(2, 0, 0, 1, LOAD | Flag.DST_FP).number(1, 3, BITS_END - 1)
                    .steps(b.here("2^60 - 1")).holds(b.here("2^60 - 1"), 4, cell, 0, BITS_END - 1);
            Machine.fpAt(4, cell).word(2, 0, 0, 1, LOAD | Flag.DST_FP).number(1, 3, BITS_END)
                    .fails(b.beyond("2^60"), 2).notSet(b.beyond("2^60"), 4, cell);
            Machine.fpAt(4, cell).word(2, 0, 0, 1, LOAD | Flag.DST_FP).address(1, 3, 4, 0)
                    .fails(b.beyond("an address"), 2);
        }
        for (int cell : new int[] {2, 4, 62, 63}) {
            Machine.fpAt(4, cell).word(2, 0, 0, 1, LOAD | Flag.DST_FP).number(1, 3, BITS_END)
                    .steps(b.here("2^60 behind them")).holds(b.here("2^60 behind them"), 4, cell, 0, BITS_END);
        }
        Boundary three = new Boundary(8, "when one of these is set to another value, the later of the two can't be written");
        for (int first : new int[] {0, 55}) {
            Machine.fpAt(4, first).number(4, first + 1, 10).word(2, 0, 0, 1, LOAD | Flag.DST_FP).number(1, 3, 12)
                    .steps(three.here("they are not set")).holds(three.here("x & y"), 4, first + 2, 0, 8)
                    .holds(three.here("x ^ y"), 4, first + 3, 0, 6).holds(three.here("x | y"), 4, first + 4, 0, 14);
            for (int behind = 2; behind <= 4; behind++) {
                Machine.fpAt(4, first).number(4, first + 1, 10).number(4, first + behind, 13)
                        .word(2, 0, 0, 1, LOAD | Flag.DST_FP).number(1, 3, 12).fails(three.beyond("one is 13"), 2)
                        .notSet(three.beyond("the later"), 4, first);
            }
        }
        Machine.fpAt(4, 60).number(4, 61, 10).word(2, 0, 0, 1, LOAD | Flag.DST_FP).number(1, 3, 12)
                .steps(three.here("no cell 64")).notSet(three.here("no cell 64"), 4, 62);
    }

    private static void outputWritten() {
        Boundary b = new Boundary(8, "Segment 5, OUTPUT: cell k can be written only when all cells before it are set");
        for (int cell : new int[] {0, 1, 63}) {
            Machine x = Machine.fpAt(5, cell).word(2, 0, 0, 1, LOAD | Flag.DST_FP).number(1, 3, 5);
            for (int before = 0; before < cell; before++) {
                if (before == 0 || before == cell - 1) {
                    x.fails(b.beyond("cell " + cell + " behind " + before), 2).notSet(b.beyond("cell " + cell), 5, cell);
                }
                x.number(5, before, 0);
            }
            x.steps(b.here("cell " + cell)).holds(b.here("cell " + cell), 5, cell, 0, 5);
        }
    }

    private static void jumpsToRes() {
        Boundary b = new Boundary(7, "with 37 RES, which must be an address");
        for (int cell : new int[] {-1000, 0, 63, 1000}) {
            new Machine().word(0, 0, 0, 1, Flag.OP1_PC | Flag.JUMP_TO).address(1, 1, 5, cell)
                    .steps(b.here("cell " + cell)).register(b.here("cell " + cell), 0, 5, cell);
        }
        for (long number : new long[] {0, 1, -1}) {
            new Machine().word(0, 0, 0, 1, Flag.OP1_PC | Flag.JUMP_TO).number(1, 1, number)
                    .fails(b.beyond("number " + number), 4);
        }
    }

    private static void jumpsByRes() {
        Boundary b = new Boundary(7, "38: pc plus RES");
        for (int[] it : new int[][] {{0, 1000, 1000}, {63, 937, 1000}, {0, -1000, -1000}, {62, -1000, -938}, {9, 0, 9}}) {
            String name = b.here(it[0] + " plus " + it[1]);
            jumping(it[0], it[1]).steps(name).register(name, 0, 1, it[2]);
        }
        for (int[] it : new int[][] {{0, 1001}, {1, 1000}, {63, 938}, {0, -1001}, {62, -1001}, {9, 5000}}) {
            jumping(it[0], it[1]).fails(b.beyond(it[0] + " plus " + it[1]), 4);
        }
        new Machine().word(0, 0, 0, 1, Flag.OP1_PC | Flag.JUMP_BY).address(1, 1, 1, 0).fails(b.beyond("an address"), 4);
    }

    private static Machine jumping(int pc, long by) {
        return new Machine().word(pc, 0, 0, 1, Flag.OP1_FP | Flag.JUMP_BY).number(2, 41, by).start(pc, 20, 40);
    }

    private static void jumpsUnlessZero() {
        Boundary b = new Boundary(7, "39: when DST is 0: pc plus the size, otherwise pc plus OP1");
        for (long zero : new long[] {0, Flag.P, -Flag.P}) {
            unless(5).number(2, 20, zero).steps(b.here("DST " + zero)).register(b.here("DST " + zero), 0, 1, 1);
        }
        for (long number : new long[] {1, -1, 2, Flag.P - 1, Flag.P + 1}) {
            unless(5).number(2, 20, number).steps(b.beyond("DST " + number))
                    .register(b.beyond("DST " + number), 0, 1, 5);
        }
        unless(5).address(2, 20, 1, 0).steps(b.beyond("an address")).register(b.beyond("an address"), 0, 1, 5);
        unless(1000).number(2, 20, 1).steps(b.beyond("by 1000")).register(b.beyond("by 1000"), 0, 1, 1000);
        unless(-1000).number(2, 20, 1).steps(b.beyond("by -1000")).register(b.beyond("by -1000"), 0, 1, -1000);
        unless(1001).number(2, 20, 1).fails(b.beyond("by 1001"), 4);
        unless(-1001).number(2, 20, 1).fails(b.beyond("by -1001"), 4);
        unless(1001).number(2, 20, 0).steps(b.here("not by 1001"));
        Machine notSet = new Machine().word(0, 0, 0, 1, Flag.OP1_FP | Flag.JUMP_UNLESS).start(0, 20, 40);
        notSet.fails(b.beyond("DST not set"), 1).number(2, 20, 0).steps(b.here("OP1 not needed"));
        Machine needed = new Machine().word(0, 0, 0, 1, Flag.OP1_FP | Flag.JUMP_UNLESS).start(0, 20, 40);
        needed.number(2, 20, 1).fails(b.beyond("OP1 needed"), 1);
        new Machine().word(0, 0, 0, 1, Flag.OP1_FP | Flag.JUMP_UNLESS).number(2, 20, 1).address(2, 41, 1, 5)
                .start(0, 20, 40).fails(b.beyond("OP1 an address"), 4);
    }

    /** 39 with DST in cell 20, which is not yet set. */
    private static Machine unless(long by) {
        return new Machine().word(0, 0, 0, 1, Flag.OP1_FP | Flag.JUMP_UNLESS).number(2, 41, by).start(0, 20, 40);
    }

    private static void apPlusRes() {
        Boundary b = new Boundary(7, "ap: plus RES (40)");
        for (int[] it : new int[][] {{0, 1000, 1000}, {-1000, 1000, 0}, {1000, 0, 1000}, {0, -1000, -1000},
            {1000, -1000, 0}, {-1000, 0, -1000}, {999, 1, 1000}, {-999, -1, -1000}}) {
            String name = b.here(it[0] + " plus " + it[1]);
            movingAp(it[0], it[1]).steps(name).register(name, 1, 2, it[2]).register(name, 0, 1, 4);
        }
        for (int[] it : new int[][] {{1, 1000}, {1000, 1}, {-1000, 1001}, {-1, -1000}, {-1000, -1}, {1000, -1001}}) {
            movingAp(it[0], it[1]).fails(b.beyond(it[0] + " plus " + it[1]), 4);
        }
        Machine.apAt(0).word(2, 0, 0, 1, Flag.OP1_PC | Flag.AP_RES).address(1, 3, 2, 0)
                .fails(b.beyond("an address"), 4);
    }

    private static Machine movingAp(int from, long by) {
        return Machine.apAt(from).word(2, 0, 0, 1, Flag.OP1_PC | Flag.AP_RES).number(1, 3, by);
    }

    private static void apPlusOneAndTwo() {
        Boundary b = new Boundary(7, "plus 1 (41), plus 2 (CALL)");
        int one = Flag.OP1_FP | Flag.AP_ONE;
        int two = Flag.OP1_FP | Flag.CALL | Flag.DST_FP | Flag.OP0_FP;
        Machine.apAt(999).word(2, 0, 0, 0, one).steps(b.here("999 plus 1")).register(b.here("999 plus 1"), 1, 2, 1000);
        Machine.apAt(1000).word(2, 0, 0, 0, one).fails(b.beyond("1000 plus 1"), 4);
        Machine.apAt(-1000).word(2, 0, 0, 0, one).steps(b.here("up from -1000"))
                .register(b.here("up from -1000"), 1, 2, -999);
        Machine.apAt(998).word(2, 0, 1, 0, two).steps(b.here("998 plus 2")).register(b.here("998 plus 2"), 1, 2, 1000)
                .register(b.here("fp: with CALL the old ap plus 2"), 2, 2, 1000);
        for (int ap : new int[] {999, 1000}) {
            String name = b.beyond(ap + " plus 2");
            Machine.apAt(ap).word(2, 0, 1, 0, two).fails(name, 4).holds(name, 2, 0, 2, 0).holds(name, 2, 1, 1, 3);
        }
    }

    private static void returns() {
        Boundary b = new Boundary(7, "with RETURN the value of DST, which must be an address");
        for (int segment = 1; segment <= 5; segment++) {
            for (int cell : new int[] {-1000, 0, 63, 64, 1000}) {
                Machine.fpAt(segment, cell).register(b.here(cell + " of " + segment), 2, segment, cell)
                        .register(b.here("pc goes on"), 0, 1, 2);
            }
        }
        for (long number : new long[] {0, 1, -1}) {
            new Machine().word(0, 0, 0, 0, Flag.OP1_FP | Flag.RETURN).number(2, 0, number)
                    .fails(b.beyond("number " + number), 4);
        }
        new Machine().word(0, 0, 0, 0, Flag.OP1_FP | Flag.RETURN).fails(b.beyond("not set"), 1);
        new Machine().word(0, 0, 0, 0, Flag.OP1_FP).number(2, 0, 5).steps(b.here("no RETURN"))
                .register(b.here("no RETURN"), 2, 2, 0);
    }

    private static void otherwiseAsItWas() {
        Boundary b = new Boundary(7, "otherwise as it was");
        for (int flags : new int[] {0, Flag.SUM, Flag.PRODUCT, Flag.DST_FP, Flag.OP0_FP}) {
            new Machine().word(9, 0, 0, 1, Flag.OP1_FP | flags).start(9, 20, 40).steps(b.here("flags " + flags))
                    .register(b.here("ap"), 1, 2, 20).register(b.here("fp"), 2, 2, 40);
        }
        for (int flags : new int[] {Flag.JUMP_BY, Flag.AP_RES, Flag.ASSERT}) {
            new Machine().word(9, 0, 0, 1, Flag.OP1_FP | flags).number(2, 41, 3).start(9, 20, 40)
                    .steps(b.here("flags " + flags)).register(b.here("fp"), 2, 2, 40)
                    .register(b.here("ap"), 1, 2, flags == Flag.AP_RES ? 23 : 20);
        }
        new Machine().word(9, 0, 0, 1, Flag.OP1_FP | Flag.AP_ONE).start(9, 20, 40).steps(b.here("ap plus 1"))
                .register(b.here("ap plus 1"), 2, 2, 40);
        new Machine().word(9, 0, 1, 1, Flag.OP1_FP | Flag.CALL).start(9, 20, 40).steps(b.beyond("CALL"))
                .register(b.beyond("CALL"), 1, 2, 22).register(b.beyond("CALL"), 2, 2, 22);
        new Machine().word(9, 0, 1, 1, Flag.OP1_FP | Flag.RETURN).address(2, 20, 2, 7).start(9, 20, 40)
                .steps(b.beyond("RETURN")).register(b.beyond("RETURN"), 1, 2, 20)
                .register(b.beyond("RETURN"), 2, 2, 7);
    }

    private static void orderOfFailures() {
        Boundary b = new Boundary(8, "A step FAILS with the first that applies, in this order of things done");
        int call = Flag.CALL | Flag.OP1_FP;
        Machine.apAt(1000).word(2, 1, 0, 0, Flag.SUM | Flag.PRODUCT).fails(b.here("bad, then DST's place"), 3);
        Machine.apAt(1000).word(2, 1, 0, 0, call).fails(b.here("DST's place, then fp written"), 4);
        Machine.apAt(1000).word(2, 0, 1, 0, call | Flag.DST_FP).fails(b.here("OP0's place, then fp written"), 4)
                .notSet(b.here("OP0's place, then fp written"), 2, 0);
        Machine.apAt(1000).word(2, 0, 0, 1, Flag.CALL | Flag.OP1_AP | Flag.DST_FP)
                .fails(b.here("OP0 written, then OP1's place"), 2).holds(b.here("fp written before"), 2, 0, 2, 0);
        Machine.apAt(1000).word(2, 0, 1, 1, Flag.CALL | Flag.OP1_AP | Flag.DST_FP | Flag.OP0_FP)
                .fails(b.beyond("OP1's place, both written"), 4).holds(b.beyond("both written"), 2, 1, 1, 3);
        new Machine().word(0, 64, 0, 0, Flag.ASSERT).fails(b.here("OP1's place, then DST written"), 1);
        new Machine().word(0, 64, 0, 0, Flag.ASSERT).number(2, 0, 5).fails(b.here("OP0 no address, then DST written"), 4);
        new Machine().word(0, 0, 1, 1, ADD | Flag.AP_RES).number(2, 20, 5).address(2, 21, 2, 0).start(0, 20, 40)
                .fails(b.here("not deduced, then RES not set"), 4).notSet(b.here("not deduced"), 2, 41);
        new Machine().word(0, 64, 0, 1, LOAD).fails(b.here("RES not set, then DST written"), 1);
        new Machine().word(0, 64, 0, 1, LOAD | Flag.SUM).address(1, 1, 1, 0).address(2, 0, 1, 0)
                .fails(b.here("RES not reckoned, then DST written"), 4);
        new Machine().word(0, 64, 0, 1, LOAD | Flag.JUMP_TO).number(1, 1, 5).fails(b.here("DST written, then pc"), 2);
        new Machine().word(0, 0, 0, 1, LOAD | Flag.JUMP_TO).number(1, 1, 5).fails(b.beyond("pc, DST written"), 4)
                .holds(b.beyond("pc, DST written"), 2, 0, 0, 5);
        Machine.apAt(1000).word(2, 0, 0, 0, Flag.OP1_FP | Flag.JUMP_UNLESS | Flag.AP_ONE | Flag.DST_FP)
                .fails(b.here("DST not set for pc, then ap"), 1).number(2, 0, 0).fails(b.beyond("ap, pc found"), 4);
        new Machine().word(0, 0, 0, 1, Flag.OP1_PC | Flag.JUMP_TO | Flag.RETURN).number(1, 1, 5)
                .fails(b.here("pc, then fp"), 4);
        Machine.apAt(1000).word(2, 0, 0, 0, Flag.OP1_FP | Flag.AP_ONE | Flag.RETURN | Flag.DST_FP)
                .fails(b.here("ap, then fp"), 4);
        Machine.apAt(999).word(2, 0, 0, 0, Flag.OP1_FP | Flag.AP_ONE | Flag.RETURN | Flag.DST_FP)
                .fails(b.beyond("fp, ap found"), 1);
    }

    private static void whatStays() {
        Boundary b = new Boundary(8, "The registers stay then, as does what was written before");
        Machine x = new Machine().word(0, 0, 1, 1, ADD | Flag.JUMP_TO).number(2, 20, 9).number(2, 21, 4);
        x.start(0, 20, 40).fails(b.beyond("the jump"), 4).holds(b.here("what was deduced"), 2, 41, 0, 5);
        x.start(0, 20, 40).fails(b.beyond("the jump again"), 4).holds(b.here("what was deduced"), 2, 41, 0, 5);
        Machine y = new Machine().word(0, 0, 1, 1, Flag.OP1_PC | Flag.CALL | Flag.JUMP_BY).start(0, 20, 40);
        y.fails(b.beyond("OP1 not set"), 1).holds(b.here("fp"), 2, 20, 2, 40).holds(b.here("pc"), 2, 21, 1, 2);
        y.number(1, 1, 9).steps(b.here("the same call once OP1 is set")).register(b.here("the call"), 0, 1, 9);
    }
}
