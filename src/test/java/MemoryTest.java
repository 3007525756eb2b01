import java.util.NoSuchElementException;

/** Promises 1, 4, 5, 10 and 11: a new object, number, address, segment and value. */
public final class MemoryTest {
    private static final int[] NO_CELLS = {-1, 64, -1000, Integer.MIN_VALUE, Integer.MAX_VALUE};
    private static final int[] NO_SEGMENTS = {0, 6, -1, Integer.MIN_VALUE, Integer.MAX_VALUE};

    public static void main(String[] args) {
        newObject();
        numberModuloP();
        numberOnce();
        numberWrong();
        addressOrdinary();
        addressOnce();
        addressWrong();
        range();
        bitsComplete();
        bitsTake();
        bitsDisagree();
        bitsLastGroup();
        output();
        lookWrong();
        Check.end();
    }

    private static void newObject() {
        for (int segment = 1; segment <= 5; segment++) {
            FieldTrace x = new FieldTrace();
            for (int cell = 0; cell <= 63; cell++) {
                notSet(x, segment, cell);
            }
        }
        FieldTrace x = new FieldTrace();
        Check.due("pc's segment", x.register(0, false), 1);
        Check.due("ap's segment", x.register(1, false), 2);
        Check.due("fp's segment", x.register(2, false), 2);
        for (int register = 0; register <= 2; register++) {
            Check.due("cell of register " + register, x.register(register, true), 0);
        }
        Check.due("rows()", x.rows(), 0);
        Check.due("failure()", x.failure(), 0);
        Check.due("begins(6)", x.begins(6), 1);
    }

    private static void numberModuloP() {
        FieldTrace x = new FieldTrace();
        long[] given = {0, 1, Flag.P - 1, Flag.P, Flag.P + 1, -1, -Flag.P, Long.MAX_VALUE, Long.MIN_VALUE};
        long[] held = {0, 1, Flag.P - 1, 0, 1, Flag.P - 1, 0, 3, Flag.P - 4};
        for (int k = 0; k < given.length; k++) {
            x.number(2, k, given[k]);
            holdsNumber(x, 2, k, held[k]);
        }
        x.number(1, 63, 7);
        holdsNumber(x, 1, 63, 7);
        notSet(x, 1, 62);
        notSet(x, 2, 63);
    }

    private static void numberOnce() {
        FieldTrace x = new FieldTrace();
        x.number(1, 0, 5);
        Check.dueNoThrow("the same number", () -> x.number(1, 0, 5));
        Check.dueNoThrow("the same number modulo P", () -> x.number(1, 0, Flag.P + 5));
        refuses(x, 1, 0, 6);
        refusesAddress(x, 1, 0, 1, 5);
        holdsNumber(x, 1, 0, 5);
    }

    private static void numberWrong() {
        FieldTrace x = new FieldTrace();
        for (int wrong : NO_CELLS) {
            Check.dueThrow("number in cell " + wrong, IllegalArgumentException.class, () -> x.number(5, wrong, 0));
        }
        for (int wrong : NO_SEGMENTS) {
            Check.dueThrow("number in segment " + wrong, IllegalArgumentException.class,
                    () -> x.number(wrong, 0, 0));
        }
    }

    private static void addressOrdinary() {
        FieldTrace x = new FieldTrace();
        int[] cells = {-1000, -1, 0, 1, 63, 64, 1000};
        for (int k = 0; k < cells.length; k++) {
            for (int target = 1; target <= 5; target++) {
                x.address(2, k * 5 + target, target, cells[k]);
                Check.due("segment of an address", x.segment(2, k * 5 + target), target);
                Check.due("cell of an address", x.value(2, k * 5 + target), cells[k]);
            }
        }
    }

    private static void addressOnce() {
        FieldTrace x = new FieldTrace();
        x.address(1, 3, 4, -7);
        Check.dueNoThrow("the same address", () -> x.address(1, 3, 4, -7));
        refusesAddress(x, 1, 3, 4, -6);
        refusesAddress(x, 1, 3, 5, -7);
        refuses(x, 1, 3, -7);
        Check.due("segment", x.segment(1, 3), 4);
        Check.due("value", x.value(1, 3), -7);
    }

    private static void addressWrong() {
        FieldTrace x = new FieldTrace();
        for (int wrong : NO_CELLS) {
            Check.dueThrow("address in cell " + wrong, IllegalArgumentException.class,
                    () -> x.address(1, wrong, 1, 0));
        }
        for (int wrong : NO_SEGMENTS) {
            Check.dueThrow("address in segment " + wrong, IllegalArgumentException.class,
                    () -> x.address(wrong, 0, 1, 0));
            Check.dueThrow("address of segment " + wrong, IllegalArgumentException.class,
                    () -> x.address(1, 0, wrong, 0));
            Check.dueThrow("no address where it can't be", IllegalArgumentException.class,
                    () -> x.address(3, 0, wrong, 0));
        }
        for (int wrong : new int[] {-1001, 1001, Integer.MIN_VALUE, Integer.MAX_VALUE}) {
            Check.dueThrow("address of cell " + wrong, IllegalArgumentException.class,
                    () -> x.address(1, 0, 1, wrong));
        }
        notSet(x, 1, 0);
    }

    private static void range() {
        FieldTrace x = new FieldTrace();
        x.number(3, 0, 65535);
        x.number(3, 63, 0);
        refuses(x, 3, 1, 65536);
        refuses(x, 3, 1, -1);
        refuses(x, 3, 1, Flag.P - 1);
        refusesAddress(x, 3, 1, 3, 0);
        notSet(x, 3, 1);
        x.number(3, 1, Flag.P + 65535);
        holdsNumber(x, 3, 1, 65535);
    }

    private static void bitsComplete() {
        long top = (1L << 60) - 1;
        long[][] pairs = {{12, 10}, {0, 0}, {top, 0}, {top, top}, {0x5555_5555_5555_555L, 0x3333_3333_3333_333L}};
        for (int k = 0; k < pairs.length; k++) {
            for (int later = 0; later <= 1; later++) {
                FieldTrace x = new FieldTrace();
                int first = 5 * (2 * k + later);
                long one = pairs[k][0];
                long two = pairs[k][1];
                x.number(4, first + 1 - later, later == 0 ? two : one);
                notSet(x, 4, first + 2);
                x.number(4, first + later, later == 0 ? one : two);
                holdsNumber(x, 4, first + 2, one & two);
                holdsNumber(x, 4, first + 3, one ^ two);
                holdsNumber(x, 4, first + 4, one | two);
                notSet(x, 4, first + 5);
                refuses(x, 4, first + 4, (one | two) + 1);
            }
        }
    }

    private static void bitsTake() {
        FieldTrace x = new FieldTrace();
        refuses(x, 4, 0, 1L << 60);
        refuses(x, 4, 1, -1);
        refusesAddress(x, 4, 0, 4, 0);
        refusesAddress(x, 4, 61, 4, 0);
        refuses(x, 4, 60, 1L << 60);
        x.number(4, 0, (1L << 60) - 1);
        x.number(4, 2, Flag.P - 1);
        x.address(4, 3, 2, 9);
        x.number(4, 4, 1L << 60);
        holdsNumber(x, 4, 2, Flag.P - 1);
        Check.due("an address behind the operands", x.segment(4, 3), 2);
    }

    private static void bitsDisagree() {
        for (int behind = 2; behind <= 4; behind++) {
            FieldTrace x = new FieldTrace();
            x.number(4, 5 + behind, 77);
            x.number(4, 6, 10);
            refuses(x, 4, 5, 12);
            for (int cell = 5; cell <= 9; cell++) {
                if (cell != 6 && cell != 5 + behind) {
                    notSet(x, 4, cell);
                }
            }
        }
        FieldTrace x = new FieldTrace();
        x.address(4, 3, 1, 6);
        x.number(4, 0, 12);
        refuses(x, 4, 1, 10);
        FieldTrace z = new FieldTrace();
        z.number(4, 3, 14);
        z.number(4, 0, 12);
        refuses(z, 4, 1, 10);
        FieldTrace xor = new FieldTrace();
        xor.number(4, 3, 6);
        xor.number(4, 0, 12);
        Check.dueNoThrow("an agreeing x ^ y", () -> xor.number(4, 1, 10));
        FieldTrace y = new FieldTrace();
        y.number(4, 2, 8);
        y.number(4, 4, 14);
        y.number(4, 0, 12);
        Check.dueNoThrow("agreeing cells behind", () -> y.number(4, 1, 10));
        holdsNumber(y, 4, 3, 6);
        Check.dueNoThrow("an operand again", () -> y.number(4, 0, 12));
    }

    private static void bitsLastGroup() {
        FieldTrace x = new FieldTrace();
        x.number(4, 60, 12);
        x.number(4, 61, 10);
        notSet(x, 4, 62);
        notSet(x, 4, 63);
        x.number(4, 62, 1);
        x.address(4, 63, 1, 1);
        holdsNumber(x, 4, 62, 1);
        FieldTrace y = new FieldTrace();
        y.number(4, 55, 12);
        y.number(4, 56, 10);
        holdsNumber(y, 4, 59, 14);
    }

    private static void output() {
        FieldTrace x = new FieldTrace();
        refuses(x, 5, 1, 7);
        refuses(x, 5, 63, 7);
        for (int cell = 0; cell <= 63; cell++) {
            if (cell < 62) {
                refuses(x, 5, cell + 2, 0);
            }
            x.number(5, cell, 0);
            holdsNumber(x, 5, cell, 0);
        }
        FieldTrace y = new FieldTrace();
        y.address(5, 0, 4, 3);
        refusesAddress(y, 5, 2, 4, 3);
        y.address(5, 1, 4, 3);
        Check.due("segment in OUTPUT", y.segment(5, 1), 4);
    }

    private static void lookWrong() {
        FieldTrace x = new FieldTrace();
        for (int wrong : NO_CELLS) {
            Check.dueThrow("segment of cell " + wrong, IllegalArgumentException.class, () -> x.segment(1, wrong));
            Check.dueThrow("value of cell " + wrong, IllegalArgumentException.class, () -> x.value(1, wrong));
        }
        for (int wrong : NO_SEGMENTS) {
            Check.dueThrow("segment of segment " + wrong, IllegalArgumentException.class,
                    () -> x.segment(wrong, 0));
            Check.dueThrow("value of segment " + wrong, IllegalArgumentException.class, () -> x.value(wrong, 0));
        }
    }

    private static void notSet(FieldTrace x, int segment, int cell) {
        String place = "(" + segment + ", " + cell + ")";
        Check.dueThrow("segment" + place, NoSuchElementException.class, () -> x.segment(segment, cell));
        Check.dueThrow("value" + place, NoSuchElementException.class, () -> x.value(segment, cell));
    }

    private static void holdsNumber(FieldTrace x, int segment, int cell, long number) {
        String place = "(" + segment + ", " + cell + ")";
        Check.dueNoThrow("value" + place, () -> {
            Check.due("segment" + place, x.segment(segment, cell), 0);
            Check.due("value" + place, x.value(segment, cell), number);
        });
    }

    private static void refuses(FieldTrace x, int segment, int cell, long number) {
        Check.dueThrow("number(" + segment + ", " + cell + ", " + number + ")", IllegalStateException.class,
                () -> x.number(segment, cell, number));
    }

    private static void refusesAddress(FieldTrace x, int segment, int cell, int target, int at) {
        Check.dueThrow("address(" + segment + ", " + cell + ", " + target + ", " + at + ")",
                IllegalStateException.class, () -> x.address(segment, cell, target, at));
    }
}
