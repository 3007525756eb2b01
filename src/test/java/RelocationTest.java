import java.util.NoSuchElementException;

/** Promises 14 and 15: begins and relocated. */
public final class RelocationTest {
    public static void main(String[] args) {
        emptyMemory();
        oneBehindTheOther();
        gapsAreZero();
        fullMemory();
        addressesBecomeNumbers();
        wrong();
        Check.end();
    }

    private static void emptyMemory() {
        FieldTrace x = new FieldTrace();
        for (int segment = 1; segment <= 6; segment++) {
            Check.due("begins(" + segment + ")", x.begins(segment), 1);
        }
        Check.dueThrow("relocated(1)", NoSuchElementException.class, () -> x.relocated(1));
    }

    private static void oneBehindTheOther() {
        Machine x = new Machine().number(1, 1, 11).number(3, 0, 30).number(4, 4, 44).number(5, 0, 50);
        int[] begins = {1, 3, 3, 4, 9, 10};
        for (int segment = 1; segment <= 6; segment++) {
            Check.due("begins(" + segment + ")", x.trace.begins(segment), begins[segment - 1]);
        }
        x.number(2, 63, 5);
        Check.due("begins(2) later", x.trace.begins(2), 3);
        Check.due("begins(3) later", x.trace.begins(3), 67);
        Check.due("begins(6) later", x.trace.begins(6), 74);
        Check.due("relocated(66)", x.trace.relocated(66), 5);
        Check.due("relocated(67)", x.trace.relocated(67), 30);
    }

    private static void gapsAreZero() {
        Machine x = new Machine().number(1, 3, 13).number(2, 2, 22).number(4, 1, 41);
        long[] row = {0, 0, 0, 13, 0, 0, 22, 0, 41};
        for (int k = 0; k < row.length; k++) {
            Check.due("relocated(" + (k + 1) + ")", x.trace.relocated(k + 1), row[k]);
        }
        Check.dueThrow("relocated at the end", NoSuchElementException.class, () -> x.trace.relocated(10));
    }

    private static void fullMemory() {
        Machine x = new Machine();
        for (int cell = 0; cell <= 63; cell++) {
            x.number(1, cell, 100 + cell).number(2, cell, 200 + cell).number(3, cell, 300 + cell);
            x.number(5, cell, 500 + cell);
        }
        x.number(4, 63, 463);
        Check.due("begins(6)", x.trace.begins(6), 321);
        Check.due("relocated(1)", x.trace.relocated(1), 100);
        Check.due("relocated(64)", x.trace.relocated(64), 163);
        Check.due("relocated(65)", x.trace.relocated(65), 200);
        Check.due("relocated(193)", x.trace.relocated(193), 0);
        Check.due("relocated(256)", x.trace.relocated(256), 463);
        Check.due("relocated(257)", x.trace.relocated(257), 500);
        Check.due("relocated(320)", x.trace.relocated(320), 563);
        Check.dueThrow("relocated(321)", NoSuchElementException.class, () -> x.trace.relocated(321));
    }

    private static void addressesBecomeNumbers() {
        Machine x = new Machine().address(1, 0, 1, 0).address(1, 1, 2, 5).address(1, 2, 5, -3).address(1, 3, 1, -1000)
                .address(1, 4, 4, 1000).number(1, 5, Flag.P - 1).address(2, 0, 1, -1);
        long[] row = {1, 7 + 5, 8 - 3, Flag.P + 1 - 1000, 8 + 1000, Flag.P - 1, 0};
        for (int k = 0; k < row.length; k++) {
            Check.due("relocated(" + (k + 1) + ")", x.trace.relocated(k + 1), row[k]);
        }
        x.number(3, 1, 0);
        Check.due("an address of a segment that has moved", x.trace.relocated(3), 10 - 3);
    }

    private static void wrong() {
        Machine x = new Machine().number(1, 0, 4);
        for (int segment : new int[] {0, 7, -1, Integer.MIN_VALUE, Integer.MAX_VALUE}) {
            Check.dueThrow("begins(" + segment + ")", IllegalArgumentException.class, () -> x.trace.begins(segment));
        }
        for (int address : new int[] {0, -1, 2, Integer.MIN_VALUE, Integer.MAX_VALUE}) {
            Check.dueThrow("relocated(" + address + ")", NoSuchElementException.class,
                    () -> x.trace.relocated(address));
        }
    }
}
