import java.util.NoSuchElementException;

/** The boundaries of promises 6, 7, 8, 9, 12 and 13: start, run, failure, register, rows and traced. */
public final class RunBoundaryTest {
    private static final int[] NO_CELLS = {-1, 64, Integer.MIN_VALUE, Integer.MAX_VALUE};
    private static final int[] NO_REGISTERS = {-1, 3, Integer.MIN_VALUE, Integer.MAX_VALUE};

    public static void main(String[] args) {
        cellsOfStart();
        startEmptiesTheTrace();
        stepsOfRun();
        runUntilOneFails();
        runUntilTheTraceIsFull();
        rowsAreFromBeforeTheSteps();
        failures();
        failureSinceStart();
        registers();
        registersFarAway();
        rows();
        rowsOfTraced();
        registersOfTraced();
        lastCall();
        Boundary.end();
    }

    private static Machine afterSteps(int count) {
        Machine x = Machine.endless();
        if (count > 0) {
            x.trace.run(count);
        }
        return x;
    }

    private static void cellsOfStart() {
        Boundary b = new Boundary(6, "IllegalArgumentException: one is not 0 .. 63");
        for (int which = 0; which <= 2; which++) {
            for (int cell : new int[] {0, 1, 62, 63}) {
                int[] at = {31, 32, 33};
                at[which] = cell;
                Machine x = new Machine();
                String name = b.here("register " + which + " at " + cell);
                Check.dueNoThrow(name, () -> x.start(at[0], at[1], at[2]));
                x.register(name, 0, 1, at[0]).register(name, 1, 2, at[1]).register(name, 2, 2, at[2]);
            }
            for (int cell : NO_CELLS) {
                int[] at = {31, 32, 33};
                at[which] = cell;
                Machine x = new Machine().start(1, 2, 3);
                String name = b.beyond("register " + which + " at " + cell);
                Check.dueThrow(name, IllegalArgumentException.class, () -> x.start(at[0], at[1], at[2]));
                x.register(name, 0, 1, 1).register(name, 1, 2, 2).register(name, 2, 2, 3);
            }
        }
    }

    private static void startEmptiesTheTrace() {
        Boundary b = new Boundary(6, "the trace is empty then");
        for (int steps : new int[] {1, 63, 64}) {
            Machine x = afterSteps(steps);
            Check.due(b.beyond("rows() before start"), x.trace.rows(), steps);
            Check.dueThrow(b.beyond("rows stay when start is refused"), IllegalArgumentException.class,
                    () -> x.start(0, 0, 64));
            Check.due(b.beyond("rows() after a refused start"), x.trace.rows(), steps);
            x.start(0, 0, 0);
            Check.due(b.here("rows()"), x.trace.rows(), 0);
            Check.dueThrow(b.here("traced(0, 0)"), NoSuchElementException.class, () -> x.trace.traced(0, 0));
            Check.due(b.here("run(100) has all its room again"), x.trace.run(100), 64);
        }
    }

    private static void stepsOfRun() {
        Boundary b = new Boundary(7, "n steps (1 .. 100)");
        for (int n : new int[] {1, 2, 63, 64}) {
            Machine x = Machine.row(64);
            Check.dueAnswer(b.here("run(" + n + ")"), n, () -> x.trace.run(n));
            x.register(b.here("run(" + n + ")"), 0, 1, n).register(b.here("run(" + n + ")"), 1, 2, n);
        }
        for (int n : new int[] {65, 99, 100}) {
            Check.dueAnswer(b.here("run(" + n + ")"), 64, () -> Machine.row(64).trace.run(n));
            Check.dueAnswer(b.here("run(" + n + ") with three"), 3, () -> Machine.row(3).trace.run(n));
        }
        for (int n : new int[] {0, 101, -1, Integer.MIN_VALUE, Integer.MAX_VALUE}) {
            Machine x = Machine.row(64);
            Check.dueThrow(b.beyond("run(" + n + ")"), IllegalArgumentException.class, () -> x.trace.run(n));
            x.register(b.beyond("run(" + n + ")"), 0, 1, 0);
            Check.due(b.beyond("run(" + n + "), rows()"), x.trace.rows(), 0);
            Check.dueThrow(b.beyond("run(" + n + ") with a full trace"), IllegalArgumentException.class,
                    () -> afterSteps(64).trace.run(n));
        }
    }

    private static void runUntilOneFails() {
        Boundary b = new Boundary(7, "until one fails");
        for (int good : new int[] {0, 1, 2, 62, 63}) {
            if (good > 0) {
                Machine x = Machine.row(good);
                Check.due(b.here("run(" + good + ")"), x.trace.run(good), good);
                Check.due(b.here("failure()"), x.trace.failure(), 0);
            }
            Machine y = Machine.row(good);
            Check.due(b.beyond("run(" + (good + 1) + ")"), y.trace.run(good + 1), good);
            Check.due(b.beyond("failure()"), y.trace.failure(), 1);
            Check.due(b.beyond("rows()"), y.trace.rows(), good);
            y.register(b.beyond("where it failed"), 0, 1, good).register(b.beyond("where it failed"), 1, 2, good);
            Check.due(b.beyond("run(1) fails again"), y.trace.run(1), 0);
            Check.due(b.beyond("rows() then"), y.trace.rows(), good);
            y.word(good, 0, 0, 0, Flag.OP1_FP | Flag.AP_ONE);
            Check.due(b.here("run(1) with the cell set"), y.trace.run(1), 1);
            Check.due(b.here("failure() then"), y.trace.failure(), 0);
        }
    }

    private static void runUntilTheTraceIsFull() {
        Boundary b = new Boundary(7, "or the trace has 64 rows");
        for (int before : new int[] {0, 1, 62, 63}) {
            Machine x = afterSteps(before);
            Check.due(b.here("run with " + before + " rows"), x.trace.run(64 - before), 64 - before);
            Check.due(b.here("rows()"), x.trace.rows(), 64);
            Machine y = afterSteps(before);
            Check.due(b.beyond("run with " + before + " rows"), y.trace.run(65 - before), 64 - before);
            Check.due(b.beyond("rows()"), y.trace.rows(), 64);
            Check.due(b.beyond("run(1)"), y.trace.run(1), 0);
            Check.due(b.beyond("run(100)"), y.trace.run(100), 0);
            Check.due(b.beyond("rows() then"), y.trace.rows(), 64);
            Check.due(b.beyond("failure()"), y.trace.failure(), 0);
        }
        Machine x = Machine.row(64);
        Check.due(b.here("64 instructions"), x.trace.run(100), 64);
        x.register(b.here("behind the last"), 0, 1, 64);
        Check.due(b.beyond("no step, so none fails"), x.trace.run(1), 0);
        Check.due(b.beyond("failure()"), x.trace.failure(), 0);
        Machine y = Machine.row(63);
        Check.due(b.here("63 instructions"), y.trace.run(100), 63);
        Check.due(b.here("the 64th fails"), y.trace.failure(), 1);
        Check.due(b.here("rows()"), y.trace.rows(), 63);
    }

    private static void rowsAreFromBeforeTheSteps() {
        Boundary b = new Boundary(7, "The registers before each step are a row of the trace");
        Machine x = Machine.row(64);
        x.trace.run(100);
        for (int k : new int[] {0, 1, 62, 63}) {
            Check.due(b.here("pc in row " + k), x.trace.traced(k, 0), 1 + k);
            Check.due(b.here("ap in row " + k), x.trace.traced(k, 1), 65 + k);
            Check.due(b.here("fp in row " + k), x.trace.traced(k, 2), 65);
        }
        Check.dueThrow(b.beyond("the registers behind the last step"), NoSuchElementException.class,
                () -> x.trace.traced(64, 0));
        Machine y = Machine.row(2);
        y.trace.run(3);
        Check.due(b.here("the last step that was done"), y.trace.traced(1, 0), 2);
        Check.dueThrow(b.beyond("the step that failed"), NoSuchElementException.class, () -> y.trace.traced(2, 0));
    }

    private static void failures() {
        Boundary b = new Boundary(8, "How the latest step failed, 1 .. 4; 0 when it did not");
        Machine x = Machine.row(1);
        Check.due(b.here("none yet"), x.trace.failure(), 0);
        x.steps(b.here("a step that is done"));
        x.fails(b.beyond("nothing there"), 1);
        x.number(1, 1, 1L << 45).fails(b.beyond("no instruction"), 3);
        x.word(5, 0, 0, 0, Flag.OP1_FP | Flag.ASSERT).number(2, 0, 3).number(2, 1, 4).start(5, 1, 0);
        x.fails(b.beyond("another value"), 2);
        x.word(6, 0, 0, 0, Flag.OP1_FP | Flag.JUMP_TO).start(6, 1, 0).fails(b.beyond("no address"), 4);
        Check.due(b.beyond("failure() twice"), x.trace.failure(), 4);
        x.start(0, 0, 0).steps(b.here("a step that is done again"));
    }

    private static void failureSinceStart() {
        Boundary b = new Boundary(8, "or there was none since start()");
        Machine x = new Machine();
        x.trace.run(1);
        Check.due(b.beyond("a step has failed"), x.trace.failure(), 1);
        x.number(2, 0, 1).address(2, 1, 1, 1);
        Check.due(b.beyond("number() and address() leave it"), x.trace.failure(), 1);
        Check.dueThrow(b.beyond("a refused run leaves it"), IllegalArgumentException.class, () -> x.trace.run(0));
        Check.due(b.beyond("a refused run leaves it"), x.trace.failure(), 1);
        Check.dueThrow(b.beyond("a refused start leaves it"), IllegalArgumentException.class, () -> x.start(64, 0, 0));
        Check.due(b.beyond("a refused start leaves it"), x.trace.failure(), 1);
        x.start(0, 0, 0);
        Check.due(b.here("start()"), x.trace.failure(), 0);
        x.trace.run(1);
        Check.due(b.beyond("a step has failed since"), x.trace.failure(), 1);
    }

    private static void registers() {
        Boundary b = new Boundary(9, "Of a register (0 pc, 1 ap, 2 fp)");
        FieldTrace x = new Machine().start(11, 22, 33).trace;
        int[] segments = {1, 2, 2};
        int[] cells = {11, 22, 33};
        for (int register = 0; register <= 2; register++) {
            int which = register;
            Check.dueAnswer(b.here("register(" + which + ", false)"), segments[which], () -> x.register(which, false));
            Check.dueAnswer(b.here("register(" + which + ", true)"), cells[which], () -> x.register(which, true));
        }
        for (int which : NO_REGISTERS) {
            Check.dueThrow(b.beyond("register(" + which + ", false)"), IllegalArgumentException.class,
                    () -> x.register(which, false));
            Check.dueThrow(b.beyond("register(" + which + ", true)"), IllegalArgumentException.class,
                    () -> x.register(which, true));
        }
    }

    private static void registersFarAway() {
        Boundary b = new Boundary(9, "its segment, or (cell) its cell");
        for (int segment = 1; segment <= 5; segment++) {
            for (int cell : new int[] {-1000, 1000}) {
                new Machine().word(0, 0, 0, 1, Flag.OP1_PC | Flag.JUMP_TO).address(1, 1, segment, cell)
                        .steps(b.here("pc")).register(b.here("pc"), 0, segment, cell);
                new Machine().word(0, 0, 0, 0, Flag.OP1_FP | Flag.RETURN).address(2, 0, segment, cell)
                        .steps(b.here("fp")).register(b.here("fp"), 2, segment, cell);
            }
        }
        for (int cell : new int[] {-1000, 1000}) {
            moveAp(cell).steps(b.here("ap")).register(b.here("ap"), 1, 2, cell);
        }
        for (int cell : new int[] {-1001, 1001}) {
            moveAp(cell).fails(b.beyond("ap"), 4).register(b.beyond("ap"), 1, 2, 0);
        }
    }

    /** An instruction that moves ap by a number of cells. */
    private static Machine moveAp(int by) {
        return new Machine().word(0, 0, 0, 1, Flag.OP1_PC | Flag.AP_RES).number(1, 1, by);
    }

    private static void rows() {
        Boundary b = new Boundary(12, "How many rows the trace has");
        Check.due(b.here("a new object"), new FieldTrace().rows(), 0);
        for (int steps : new int[] {1, 2, 63, 64}) {
            Check.due(b.here(steps + " steps"), afterSteps(steps).trace.rows(), steps);
        }
        for (int steps : new int[] {65, 100}) {
            Check.due(b.beyond(steps + " steps"), afterSteps(steps).trace.rows(), 64);
        }
        Machine x = Machine.row(2);
        x.trace.run(100);
        Check.due(b.beyond("a step that failed"), x.trace.rows(), 2);
        x.start(0, 0, 0);
        Check.due(b.here("after start()"), x.trace.rows(), 0);
    }

    private static void rowsOfTraced() {
        Boundary b = new Boundary(13, "NoSuchElementException: no such row");
        for (int steps : new int[] {1, 2, 63, 64}) {
            FieldTrace x = afterSteps(steps).trace;
            for (int register = 0; register <= 2; register++) {
                int which = register;
                long want = which == 0 ? 1 : 3;
                Check.dueAnswer(b.here("the first of " + steps), want, () -> x.traced(0, which));
                Check.dueAnswer(b.here("the last of " + steps), want, () -> x.traced(steps - 1, which));
                for (int k : new int[] {-1, steps, 64, 65, Integer.MIN_VALUE, Integer.MAX_VALUE}) {
                    Check.dueThrow(b.beyond("row " + k + " of " + steps), NoSuchElementException.class,
                            () -> x.traced(k, which));
                }
            }
        }
        for (int k : new int[] {-1, 0, 1}) {
            Check.dueThrow(b.beyond("row " + k + " of none"), NoSuchElementException.class,
                    () -> new FieldTrace().traced(k, 0));
        }
    }

    private static void registersOfTraced() {
        Boundary b = new Boundary(13, "IllegalArgumentException: no such register");
        FieldTrace x = Machine.row(2).start(0, 5, 9).trace;
        x.run(2);
        long[] first = {1, 3 + 5, 3 + 9};
        for (int register = 0; register <= 2; register++) {
            int which = register;
            Check.dueAnswer(b.here("register " + which), first[which], () -> x.traced(0, which));
        }
        for (int which : NO_REGISTERS) {
            for (int k : new int[] {0, 1, 2, -1}) {
                Check.dueThrow(b.beyond("register " + which + " in row " + k), IllegalArgumentException.class,
                        () -> x.traced(k, which));
            }
        }
    }

    /** An object is used for at most 512 calls, and the last of them is as good as the first. */
    private static void lastCall() {
        FieldTrace x = new FieldTrace();
        for (int call = 1; call <= 511; call++) {
            x.number(1, call % 64, call % 64);
        }
        Check.dueAnswer("the 512th call", 63, () -> x.value(1, 63));
    }
}
