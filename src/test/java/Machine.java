import java.util.NoSuchElementException;

/** A FieldTrace with short ways to set it up and to ask what a step has done. */
final class Machine {
    final FieldTrace trace = new FieldTrace();

    /** Instructions that each move ap by one, in cells 0 to count - 1 of segment 1. */
    static Machine row(int count) {
        Machine x = new Machine();
        for (int cell = 0; cell < count; cell++) {
            x.word(cell, 0, 0, 0, Flag.OP1_FP | Flag.AP_ONE);
        }
        return x;
    }

    /** An instruction that jumps to itself. */
    static Machine endless() {
        return new Machine().word(0, 0, 0, 1, Flag.OP1_PC | Flag.JUMP_BY).number(1, 1, 0);
    }

    /** ap at a cell -1000 .. 1000 of segment 2, fp at its cell 0, pc at cell 2. */
    static Machine apAt(int cell) {
        Machine x = new Machine().word(0, 0, 0, 1, Flag.OP1_PC | Flag.AP_RES).number(1, 1, cell);
        return x.steps("ap to " + cell);
    }

    /** fp at any address, which cell 0 of segment 2 holds, ap at that cell, pc at cell 2. */
    static Machine fpAt(int segment, int cell) {
        Machine x = new Machine().word(1, 0, 0, 0, Flag.OP1_FP | Flag.RETURN).address(2, 0, segment, cell);
        return x.start(1, 0, 0).steps("fp to " + cell + " of " + segment);
    }

    /** Writes an instruction to a cell of segment 1. */
    Machine word(int cell, int dst, int op0, int op1, int flags) {
        trace.number(1, cell, trace.encode(dst, op0, op1, flags));
        return this;
    }

    Machine number(int segment, int cell, long number) {
        trace.number(segment, cell, number);
        return this;
    }

    Machine address(int segment, int cell, int target, int at) {
        trace.address(segment, cell, target, at);
        return this;
    }

    Machine start(int pc, int ap, int fp) {
        trace.start(pc, ap, fp);
        return this;
    }

    /** One step that must be done. */
    Machine steps(String name) {
        Check.due(name + ": run(1)", trace.run(1), 1);
        Check.due(name + ": failure()", trace.failure(), 0);
        return this;
    }

    /** One step that must fail so, with the registers and the trace as they were. */
    Machine fails(String name, int failure) {
        int[] before = registers();
        int rows = trace.rows();
        Check.due(name + ": run(1)", trace.run(1), 0);
        Check.due(name + ": failure()", trace.failure(), failure);
        Check.due(name + ": rows()", trace.rows(), rows);
        int[] after = registers();
        for (int k = 0; k < before.length; k++) {
            Check.due(name + ": part " + k + " of the registers", after[k], before[k]);
        }
        return this;
    }

    Machine register(String name, int register, int segment, int cell) {
        Check.due(name + ": segment of register " + register, trace.register(register, false), segment);
        Check.due(name + ": cell of register " + register, trace.register(register, true), cell);
        return this;
    }

    /** The cell holds an address, or, with target 0, a number. */
    Machine holds(String name, int segment, int cell, int target, long value) {
        Check.dueNoThrow(name + ": value(" + segment + ", " + cell + ")", () -> {
            Check.due(name + ": segment(" + segment + ", " + cell + ")", trace.segment(segment, cell), target);
            Check.due(name + ": value(" + segment + ", " + cell + ")", trace.value(segment, cell), value);
        });
        return this;
    }

    Machine notSet(String name, int segment, int cell) {
        Check.dueThrow(name + ": value(" + segment + ", " + cell + ")", NoSuchElementException.class,
                () -> trace.value(segment, cell));
        return this;
    }

    private int[] registers() {
        int[] parts = new int[6];
        for (int k = 0; k < 6; k++) {
            parts[k] = trace.register(k / 2, k % 2 == 1);
        }
        return parts;
    }
}
