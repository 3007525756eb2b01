import java.util.NoSuchElementException;

/** Promises 6, 7, 8, 9, 12 and 13: start, run, failure, register, rows and traced. */
public final class RunTest {
    public static void main(String[] args) {
        startSets();
        startWrong();
        startEmptiesTheTrace();
        runCounts();
        runStopsAtFailure();
        runStopsAtFullTrace();
        runWrong();
        failureIsOfTheLatestStep();
        registerWrong();
        tracedRelocates();
        tracedBelowTheFirst();
        tracedWrong();
        Check.end();
    }

    private static void startSets() {
        new Machine().start(63, 0, 63).register("start", 0, 1, 63).register("start", 1, 2, 0)
                .register("start", 2, 2, 63);
        new Machine().start(1, 2, 3).register("start", 0, 1, 1).register("start", 1, 2, 2).register("start", 2, 2, 3);
        Machine x = new Machine().word(0, 0, 0, 1, Flag.OP1_PC | Flag.JUMP_TO).address(1, 1, 4, 7).steps("away");
        x.register("away", 0, 4, 7).start(0, 0, 0).register("back", 0, 1, 0);
        Machine y = new Machine().word(0, 0, 0, 0, Flag.RETURN | Flag.OP1_FP).address(2, 0, 5, 7).steps("fp away");
        y.register("fp away", 2, 5, 7).start(0, 1, 1).register("fp back", 2, 2, 1);
        y.holds("start leaves memory", 2, 0, 5, 7);
    }

    private static void startWrong() {
        Machine x = Machine.row(3).start(0, 5, 6).steps("before");
        x.trace.run(9);
        for (int wrong : new int[] {-1, 64, Integer.MIN_VALUE, Integer.MAX_VALUE}) {
            Check.dueThrow("start with pc " + wrong, IllegalArgumentException.class, () -> x.trace.start(wrong, 0, 0));
            Check.dueThrow("start with ap " + wrong, IllegalArgumentException.class, () -> x.trace.start(0, wrong, 0));
            Check.dueThrow("start with fp " + wrong, IllegalArgumentException.class, () -> x.trace.start(0, 0, wrong));
        }
        x.register("after", 0, 1, 3).register("after", 1, 2, 8).register("after", 2, 2, 6);
        Check.due("rows()", x.trace.rows(), 3);
        Check.due("failure()", x.trace.failure(), 1);
    }

    private static void startEmptiesTheTrace() {
        Machine x = Machine.row(5);
        Check.due("run(3)", x.trace.run(3), 3);
        Check.due("rows()", x.trace.rows(), 3);
        x.start(1, 9, 9);
        Check.due("rows() after start", x.trace.rows(), 0);
        Check.dueThrow("traced(0, 0) after start", NoSuchElementException.class, () -> x.trace.traced(0, 0));
        Check.due("run(2)", x.trace.run(2), 2);
        Check.due("rows()", x.trace.rows(), 2);
        Check.due("traced(0, 0)", x.trace.traced(0, 0), 2);
    }

    private static void runCounts() {
        Machine x = Machine.row(10);
        Check.due("run(1)", x.trace.run(1), 1);
        x.register("after one", 0, 1, 1).register("after one", 1, 2, 1);
        Check.due("run(4)", x.trace.run(4), 4);
        x.register("after five", 0, 1, 5).register("after five", 1, 2, 5);
        Check.due("rows()", x.trace.rows(), 5);
        Check.due("failure()", x.trace.failure(), 0);
    }

    private static void runStopsAtFailure() {
        Machine x = Machine.row(10);
        Check.due("run(100)", x.trace.run(100), 10);
        Check.due("failure()", x.trace.failure(), 1);
        Check.due("rows()", x.trace.rows(), 10);
        x.register("at the end", 0, 1, 10).register("at the end", 1, 2, 10);
        Check.due("run(1)", x.trace.run(1), 0);
        Check.due("rows()", x.trace.rows(), 10);
        x.word(10, 0, 0, 0, Flag.OP1_FP | Flag.AP_ONE);
        Check.due("run(2)", x.trace.run(2), 1);
        Check.due("rows()", x.trace.rows(), 11);
    }

    private static void runStopsAtFullTrace() {
        Machine x = Machine.endless();
        Check.due("run(63)", x.trace.run(63), 63);
        Check.due("run(100)", x.trace.run(100), 1);
        Check.due("rows()", x.trace.rows(), 64);
        Check.due("run(1)", x.trace.run(1), 0);
        Check.due("failure()", x.trace.failure(), 0);
        Machine y = Machine.row(64);
        Check.due("run(100)", y.trace.run(100), 64);
        Check.due("failure()", y.trace.failure(), 0);
        y.register("full", 0, 1, 64);
        Check.due("run(1) with nothing at pc", y.trace.run(1), 0);
        Check.due("failure()", y.trace.failure(), 0);
        Check.due("traced(63, 0)", y.trace.traced(63, 0), 64);
    }

    private static void runWrong() {
        Machine x = Machine.row(2);
        x.trace.run(3);
        for (int wrong : new int[] {0, -1, 101, Integer.MIN_VALUE, Integer.MAX_VALUE}) {
            Check.dueThrow("run(" + wrong + ")", IllegalArgumentException.class, () -> x.trace.run(wrong));
        }
        Check.due("rows()", x.trace.rows(), 2);
        Check.due("failure()", x.trace.failure(), 1);
        Machine full = Machine.endless();
        full.trace.run(100);
        Check.dueThrow("run(0) with a full trace", IllegalArgumentException.class, () -> full.trace.run(0));
    }

    private static void failureIsOfTheLatestStep() {
        Machine x = new Machine();
        Check.due("failure() at first", x.trace.failure(), 0);
        x.fails("nothing there", 1);
        x.number(2, 0, 3);
        Check.due("failure() stays after a write", x.trace.failure(), 1);
        x.word(0, 0, 0, 1, Flag.ASSERT | Flag.OP1_PC).number(1, 1, 4).fails("another value", 2);
        x.start(0, 1, 0);
        Check.due("failure() after start", x.trace.failure(), 0);
        x.steps("it goes on").fails("and stops", 1);
        x.address(1, 2, 1, 0).fails("no instruction", 3);
        x.word(20, 0, 0, 1, Flag.JUMP_TO | Flag.OP1_PC).number(1, 21, 4).start(20, 0, 0).fails("no address", 4);
    }

    private static void registerWrong() {
        Machine x = new Machine();
        for (int wrong : new int[] {-1, 3, Integer.MIN_VALUE, Integer.MAX_VALUE}) {
            Check.dueThrow("register(" + wrong + ", true)", IllegalArgumentException.class,
                    () -> x.trace.register(wrong, true));
            Check.dueThrow("register(" + wrong + ", false)", IllegalArgumentException.class,
                    () -> x.trace.register(wrong, false));
        }
    }

    private static void tracedRelocates() {
        Machine x = Machine.row(3).start(0, 5, 7);
        x.trace.run(3);
        for (int k = 0; k < 3; k++) {
            Check.due("pc in row " + k, x.trace.traced(k, 0), 1 + k);
            Check.due("ap in row " + k, x.trace.traced(k, 1), 4 + 5 + k);
            Check.due("fp in row " + k, x.trace.traced(k, 2), 4 + 7);
        }
        x.number(1, 9, 0);
        Check.due("ap when segment 1 has grown", x.trace.traced(0, 1), 11 + 5);
        Check.due("pc when segment 1 has grown", x.trace.traced(2, 0), 3);
    }

    private static void tracedBelowTheFirst() {
        Machine x = new Machine().word(0, 0, 0, 1, Flag.OP1_PC | Flag.AP_RES).number(1, 1, -500).steps("ap low");
        x.word(2, 0, 0, 0, Flag.OP1_FP).steps("with ap low");
        Check.due("ap below 0", x.trace.traced(1, 1), Flag.P + 4 - 500);
        Check.due("fp", x.trace.traced(1, 2), 4);
    }

    private static void tracedWrong() {
        Machine x = Machine.row(2);
        x.trace.run(5);
        for (int wrong : new int[] {-1, 2, 63, 64, Integer.MIN_VALUE, Integer.MAX_VALUE}) {
            Check.dueThrow("traced(" + wrong + ", 0)", NoSuchElementException.class, () -> x.trace.traced(wrong, 0));
            Check.dueThrow("traced(" + wrong + ", 3)", IllegalArgumentException.class, () -> x.trace.traced(wrong, 3));
        }
        for (int wrong : new int[] {-1, 3, Integer.MIN_VALUE, Integer.MAX_VALUE}) {
            Check.dueThrow("traced(0, " + wrong + ")", IllegalArgumentException.class, () -> x.trace.traced(0, wrong));
        }
    }
}
