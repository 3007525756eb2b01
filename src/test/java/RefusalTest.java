import java.util.ArrayList;
import java.util.List;
import java.util.NoSuchElementException;

/**
 * Every exception that a promise names: the call throws it, and the object then shows, and goes on, as one
 * that was not called so. A failed step, too, leaves all but failure() and what it wrote before.
 */
public final class RefusalTest {
    interface Use {
        void of(FieldTrace x);
    }

    private static final Class<IllegalArgumentException> ARGUMENT = IllegalArgumentException.class;
    private static final Class<IllegalStateException> STATE = IllegalStateException.class;
    private static final Class<NoSuchElementException> ELEMENT = NoSuchElementException.class;
    private static final int[] NO_SEGMENTS = {0, 6, Integer.MIN_VALUE, Integer.MAX_VALUE};
    private static final int[] NO_CELLS = {-1, 64, Integer.MIN_VALUE, Integer.MAX_VALUE};
    private static final int[] NO_REGISTERS = {-1, 3, Integer.MIN_VALUE, Integer.MAX_VALUE};

    public static void main(String[] args) {
        encode();
        decode();
        number();
        numberInSegments();
        address();
        start();
        run();
        register();
        segmentAndValue();
        traced();
        begins();
        relocated();
        reckon();
        readingChangesNothing();
        failedSteps();
        Check.end();
    }

    /** Two steps done and a third failed with 4; each segment has something. */
    private static FieldTrace made() {
        Machine x = new Machine().word(0, 0, 0, 0, Flag.OP1_FP | Flag.AP_ONE).word(1, 0, 0, 0, Flag.OP1_FP | Flag.AP_ONE);
        x.word(2, 0, 0, 1, Flag.OP1_PC | Flag.JUMP_TO).number(1, 3, 5).address(2, 9, 3, -7).number(3, 0, 65535);
        x.number(4, 0, 12).number(4, 3, 6).number(5, 0, 1).address(5, 1, 2, 4);
        x.start(0, 5, 6).trace.run(3);
        return x.trace;
    }

    /** Later calls that would show what a refused one had set: the rest of BITS, OUTPUT, a run. */
    private static void goOn(FieldTrace x) {
        x.run(1);
        x.number(4, 1, 10);
        x.number(5, 2, 8);
        x.number(3, 1, 7);
        x.address(2, 10, 1, 1);
        x.start(0, 5, 6);
        x.run(2);
    }

    private static void refused(int promise, String call, Class<? extends RuntimeException> want, Use use) {
        String name = "promise " + promise + ", " + want.getSimpleName() + ": " + call;
        FieldTrace now = made();
        Check.dueThrow(name, want, () -> use.of(now));
        same(name + ", what it shows", now, made());
        FieldTrace later = made();
        Check.dueThrow(name, want, () -> use.of(later));
        FieldTrace other = made();
        Check.dueNoThrow(name + ", later calls", () -> goOn(later));
        goOn(other);
        same(name + ", what later calls show", later, other);
    }

    private static void same(String name, FieldTrace got, FieldTrace want) {
        same(name, Snapshot.of(got), Snapshot.of(want));
    }

    private static void same(String name, List<String> got, List<String> want) {
        Check.due(name + ", lines", got.size(), want.size());
        for (int k = 0; k < Math.min(got.size(), want.size()); k++) {
            Check.dueText(name, got.get(k), want.get(k));
        }
    }

    private static void encode() {
        for (int wrong : new int[] {-513, 512}) {
            refused(2, "dst " + wrong, ARGUMENT, x -> x.encode(wrong, 0, 0, 0));
            refused(2, "op0 " + wrong, ARGUMENT, x -> x.encode(0, wrong, 0, 0));
            refused(2, "op1 " + wrong, ARGUMENT, x -> x.encode(0, 0, wrong, 0));
        }
        for (int wrong : new int[] {-1, 32768}) {
            refused(2, "flags " + wrong, ARGUMENT, x -> x.encode(0, 0, 0, wrong));
        }
    }

    private static void decode() {
        for (int wrong : new int[] {-1, 5}) {
            refused(3, "what " + wrong, ARGUMENT, x -> x.decode(0, wrong));
            refused(3, "what " + wrong + " of no word", ARGUMENT, x -> x.decode(-1, wrong));
        }
        for (long wrong : new long[] {-1, 1L << 45, (1L << 45) - 1}) {
            refused(3, "word " + wrong, STATE, x -> x.decode(wrong, 0));
        }
    }

    private static void number() {
        for (int wrong : NO_SEGMENTS) {
            refused(4, "segment " + wrong, ARGUMENT, x -> x.number(wrong, 0, 12));
        }
        for (int wrong : NO_CELLS) {
            for (int segment = 1; segment <= 5; segment++) {
                int home = segment;
                refused(4, "cell " + wrong + " of " + segment, ARGUMENT, x -> x.number(home, wrong, 12));
            }
        }
        refused(4, "another number in segment 1", STATE, x -> x.number(1, 3, 6));
        refused(4, "a number on an address", STATE, x -> x.number(2, 9, -7));
        refused(4, "another number in BITS", STATE, x -> x.number(4, 0, 13));
        refused(4, "another number in OUTPUT", STATE, x -> x.number(5, 0, 2));
    }

    private static void numberInSegments() {
        refused(4, "65536 in RANGE", STATE, x -> x.number(3, 1, 65536));
        refused(4, "65536 in the last of RANGE", STATE, x -> x.number(3, 63, 65536));
        refused(4, "another number in RANGE", STATE, x -> x.number(3, 0, 65534));
        refused(4, "2^60 in BITS", STATE, x -> x.number(4, 1, 1L << 60));
        refused(4, "2^60 in another group of BITS", STATE, x -> x.number(4, 5, 1L << 60));
        refused(4, "2^60 in the last operand of BITS", STATE, x -> x.number(4, 61, 1L << 60));
        refused(4, "11 in BITS, as 12 ^ 11 is not 6", STATE, x -> x.number(4, 1, 11));
        refused(4, "OUTPUT out of its turn", STATE, x -> x.number(5, 3, 8));
        refused(4, "the last of OUTPUT", STATE, x -> x.number(5, 63, 8));
    }

    private static void address() {
        for (int wrong : NO_SEGMENTS) {
            refused(5, "segment " + wrong, ARGUMENT, x -> x.address(wrong, 0, 1, 1));
            refused(5, "target " + wrong, ARGUMENT, x -> x.address(2, 10, wrong, 1));
        }
        for (int wrong : NO_CELLS) {
            refused(5, "cell " + wrong, ARGUMENT, x -> x.address(2, wrong, 1, 1));
        }
        for (int wrong : new int[] {-1001, 1001, Integer.MIN_VALUE, Integer.MAX_VALUE}) {
            refused(5, "at " + wrong, ARGUMENT, x -> x.address(2, 10, 1, wrong));
        }
        refused(5, "another cell", STATE, x -> x.address(2, 9, 3, -6));
        refused(5, "another segment", STATE, x -> x.address(2, 9, 2, -7));
        refused(5, "an address on a number", STATE, x -> x.address(1, 3, 1, 5));
        refused(5, "RANGE", STATE, x -> x.address(3, 1, 1, 0));
        refused(5, "BITS", STATE, x -> x.address(4, 1, 1, 0));
        refused(5, "OUTPUT out of its turn", STATE, x -> x.address(5, 3, 1, 0));
    }

    private static void start() {
        for (int wrong : NO_CELLS) {
            refused(6, "pc " + wrong, ARGUMENT, x -> x.start(wrong, 1, 1));
            refused(6, "ap " + wrong, ARGUMENT, x -> x.start(1, wrong, 1));
            refused(6, "fp " + wrong, ARGUMENT, x -> x.start(1, 1, wrong));
        }
    }

    private static void run() {
        for (int wrong : new int[] {0, 101, -1, Integer.MIN_VALUE, Integer.MAX_VALUE}) {
            refused(7, "n " + wrong, ARGUMENT, x -> x.run(wrong));
        }
    }

    private static void register() {
        for (int wrong : NO_REGISTERS) {
            refused(9, "register " + wrong, ARGUMENT, x -> x.register(wrong, false));
            refused(9, "the cell of register " + wrong, ARGUMENT, x -> x.register(wrong, true));
        }
    }

    private static void segmentAndValue() {
        for (int wrong : NO_SEGMENTS) {
            refused(10, "segment " + wrong, ARGUMENT, x -> x.segment(wrong, 0));
            refused(11, "segment " + wrong, ARGUMENT, x -> x.value(wrong, 0));
        }
        for (int wrong : NO_CELLS) {
            refused(10, "cell " + wrong, ARGUMENT, x -> x.segment(2, wrong));
            refused(11, "cell " + wrong, ARGUMENT, x -> x.value(2, wrong));
        }
        for (int cell : new int[] {0, 10, 63}) {
            refused(10, "cell " + cell + " is not set", ELEMENT, x -> x.segment(2, cell));
            refused(11, "cell " + cell + " is not set", ELEMENT, x -> x.value(2, cell));
        }
    }

    private static void traced() {
        for (int wrong : NO_REGISTERS) {
            refused(13, "register " + wrong, ARGUMENT, x -> x.traced(0, wrong));
            refused(13, "register " + wrong + " of no row", ARGUMENT, x -> x.traced(2, wrong));
        }
        for (int wrong : new int[] {-1, 2, 63, 64, Integer.MIN_VALUE, Integer.MAX_VALUE}) {
            refused(13, "row " + wrong, ELEMENT, x -> x.traced(wrong, 0));
        }
    }

    private static void begins() {
        for (int wrong : new int[] {0, 7, Integer.MIN_VALUE, Integer.MAX_VALUE}) {
            refused(14, "segment " + wrong, ARGUMENT, x -> x.begins(wrong));
        }
    }

    private static void relocated() {
        int end = made().begins(6);
        Check.due("the end", end, 1 + 4 + 10 + 1 + 4 + 2);
        for (int wrong : new int[] {0, end, end + 1, -1, Integer.MIN_VALUE, Integer.MAX_VALUE}) {
            refused(15, "address " + wrong, ELEMENT, x -> x.relocated(wrong));
        }
    }

    private static void reckon() {
        for (int wrong : new int[] {-1, 4, Integer.MIN_VALUE, Integer.MAX_VALUE}) {
            refused(16, "operation " + wrong, ARGUMENT, x -> x.reckon(wrong, 1, 1));
            refused(16, "operation " + wrong + " with 0", ARGUMENT, x -> x.reckon(wrong, 1, 0));
        }
        for (long zero : new long[] {0, Flag.P, -Flag.P}) {
            refused(16, "divided by " + zero, ArithmeticException.class, x -> x.reckon(3, 1, zero));
        }
    }

    private static void readingChangesNothing() {
        FieldTrace y = made();
        y.encode(1, 2, 3, 4);
        y.decode(0, 3);
        y.reckon(3, 5, 7);
        y.failure();
        y.register(0, true);
        y.segment(2, 9);
        y.value(2, 9);
        y.rows();
        y.traced(1, 2);
        y.begins(6);
        y.relocated(1);
        same("calls that only look", y, made());
    }

    private static void failedSteps() {
        int load = Flag.ASSERT | Flag.OP1_PC;
        failed(1, x -> x.word(20, 0, 0, 1, load));
        failed(2, x -> x.word(20, 4, 0, 1, load).number(1, 21, 5));
        failed(3, x -> x.word(20, 0, 0, 0, Flag.SUM | Flag.PRODUCT));
        failed(4, x -> x.word(20, 0, 0, 1, Flag.OP1_PC | Flag.JUMP_TO).number(1, 21, 5));
        failed(4, x -> x.word(20, 0, 0, 1, Flag.OP1_PC | Flag.AP_RES).number(1, 21, 1001));
    }

    private interface SetUp {
        void of(Machine x);
    }

    /** A step at pc 20 that fails without having written leaves all but failure() as it was. */
    private static void failed(int how, SetUp setUp) {
        List<String> before = Snapshot.of(beforeFailing(setUp));
        FieldTrace x = beforeFailing(setUp);
        Check.due("promise 7, a step that fails with " + how, x.run(100), 0);
        List<String> want = new ArrayList<>(before);
        want.set(0, "failure() = " + how);
        same("promise 8, after a failure with " + how, Snapshot.of(x), want);
    }

    private static FieldTrace beforeFailing(SetUp setUp) {
        Machine x = new Machine().address(2, 9, 3, -7).number(5, 0, 1);
        setUp.of(x);
        return x.start(20, 5, 6).trace;
    }
}
