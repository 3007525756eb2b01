/** The boundaries of promise 16: reckon. */
public final class ReckonBoundaryTest {
    private static final long P = Flag.P;
    private static final String MODULO_P = "sums, differences, products and quotients are taken modulo P";
    private static final long[] ZEROS = {0, P, -P, 2 * P, -2 * P, 4 * P, -4 * P};

    public static void main(String[] args) {
        operations();
        plus();
        minus();
        times();
        dividedBy();
        byZero();
        moduloP();
        Boundary.end();
    }

    private static void operations() {
        Boundary b = new Boundary(16, "IllegalArgumentException: there is no such operation");
        due(b.here("0"), 0, 12, 4, 16);
        due(b.here("1"), 1, 12, 4, 8);
        due(b.here("2"), 2, 12, 4, 48);
        due(b.here("3"), 3, 12, 4, 3);
        for (int operation : new int[] {-1, 4, Integer.MIN_VALUE, Integer.MAX_VALUE}) {
            for (long y : new long[] {4, 0, P}) {
                Check.dueThrow(b.beyond(operation + " with " + y), IllegalArgumentException.class,
                        () -> new FieldTrace().reckon(operation, 12, y));
            }
        }
    }

    private static void plus() {
        Boundary b = new Boundary(16, MODULO_P);
        due(b.here("0 + 0"), 0, 0, 0, 0);
        due(b.here("(P - 1) + 0"), 0, P - 1, 0, P - 1);
        due(b.here("(P - 2) + 1"), 0, P - 2, 1, P - 1);
        due(b.here("2^60 - 1 + 2^60 - 1"), 0, (1L << 60) - 1, (1L << 60) - 1, P - 1);
        due(b.beyond("(P - 1) + 1"), 0, P - 1, 1, 0);
        due(b.beyond("2^60 + 2^60 - 1"), 0, 1L << 60, (1L << 60) - 1, 0);
        due(b.beyond("2^60 + 2^60"), 0, 1L << 60, 1L << 60, 1);
        due(b.beyond("(P - 1) + (P - 1)"), 0, P - 1, P - 1, P - 2);
    }

    private static void minus() {
        Boundary b = new Boundary(16, MODULO_P);
        due(b.here("0 - 0"), 1, 0, 0, 0);
        due(b.here("(P - 1) - (P - 1)"), 1, P - 1, P - 1, 0);
        due(b.here("(P - 1) - 0"), 1, P - 1, 0, P - 1);
        due(b.here("1 - 0"), 1, 1, 0, 1);
        due(b.beyond("0 - 1"), 1, 0, 1, P - 1);
        due(b.beyond("0 - (P - 1)"), 1, 0, P - 1, 1);
        due(b.beyond("(P - 2) - (P - 1)"), 1, P - 2, P - 1, P - 1);
    }

    private static void times() {
        Boundary b = new Boundary(16, MODULO_P);
        due(b.here("0 * (P - 1)"), 2, 0, P - 1, 0);
        due(b.here("1 * (P - 1)"), 2, 1, P - 1, P - 1);
        due(b.here("2^30 * 2^30"), 2, 1L << 30, 1L << 30, 1L << 60);
        due(b.here("(2^60 - 1) * 2"), 2, (1L << 60) - 1, 2, P - 1);
        due(b.beyond("2^60 * 2"), 2, 1L << 60, 2, 1);
        due(b.beyond("2^30 * 2^31"), 2, 1L << 30, 1L << 31, 1);
        due(b.beyond("2^31 * 2^31"), 2, 1L << 31, 1L << 31, 2);
        due(b.beyond("2^60 * 2^60"), 2, 1L << 60, 1L << 60, 1L << 59);
        due(b.beyond("(P - 1) * (P - 1)"), 2, P - 1, P - 1, 1);
        due(b.beyond("(P - 1) * 2"), 2, P - 1, 2, P - 2);
        due(b.here("2 * (2^60 - 1)"), 2, 2, (1L << 60) - 1, P - 1);
        due(b.beyond("(2^31 - 1) * (2^31 + 1)"), 2, (1L << 31) - 1, (1L << 31) + 1, 1);
    }

    private static void dividedBy() {
        Boundary b = new Boundary(16, "a quotient x / y is the number whose product with y is x");
        due(b.here("0 / 1"), 3, 0, 1, 0);
        due(b.here("0 / (P - 1)"), 3, 0, P - 1, 0);
        due(b.here("(P - 1) / 1"), 3, P - 1, 1, P - 1);
        due(b.here("(P - 1) / (P - 1)"), 3, P - 1, P - 1, 1);
        due(b.here("6 / 3"), 3, 6, 3, 2);
        due(b.beyond("1 / 2"), 3, 1, 2, 1L << 60);
        due(b.beyond("1 / (P - 1)"), 3, 1, P - 1, P - 1);
        due(b.beyond("1 / 2^60"), 3, 1, 1L << 60, 2);
        due(b.beyond("7 / 3"), 3, 7, 3, 1537228672809129303L);
        for (long x : new long[] {1, 2, 7, P - 1, 1L << 60, 1234567890123456789L}) {
            for (long y : new long[] {1, 2, 3, P - 1, P - 2, 1L << 60, 987654321987654321L}) {
                FieldTrace z = new FieldTrace();
                Check.dueAnswer(b.here(x + " / " + y + " * " + y), x, () -> z.reckon(2, z.reckon(3, x, y), y));
            }
        }
    }

    private static void byZero() {
        Boundary b = new Boundary(16, "ArithmeticException: a division by 0");
        due(b.here("by 1"), 3, 5, 1, 5);
        due(b.here("by -1"), 3, 5, -1, P - 5);
        due(b.here("by P - 1"), 3, 5, P - 1, P - 5);
        due(b.here("by P + 1"), 3, 5, P + 1, 5);
        due(b.here("by 4 P + 1"), 3, 5, 4 * P + 1, 5);
        due(b.here("by -4 P - 1"), 3, 5, -4 * P - 1, P - 5);
        for (long zero : ZEROS) {
            for (long x : new long[] {0, 1, P - 1, P, Long.MIN_VALUE}) {
                Check.dueThrow(b.beyond(x + " / " + zero), ArithmeticException.class,
                        () -> new FieldTrace().reckon(3, x, zero));
            }
            due(b.here("5 + " + zero), 0, 5, zero, 5);
            due(b.here("5 - " + zero), 1, 5, zero, 5);
            due(b.here("5 * " + zero), 2, 5, zero, 0);
        }
    }

    private static void moduloP() {
        Boundary b = new Boundary(16, "(taken modulo P)");
        long[] given = {P - 1, P, P + 1, -1, 1 - P, -P, Long.MAX_VALUE, Long.MIN_VALUE, 4 * P - 1, -4 * P - 1};
        long[] taken = {P - 1, 0, 1, P - 1, 1, 0, 3, P - 4, P - 1, P - 1};
        for (int k = 0; k < given.length; k++) {
            String name = given[k] == taken[k] ? b.here("" + given[k]) : b.beyond("" + given[k]);
            due(name + " + 0", 0, given[k], 0, taken[k]);
            due(name + " as y of +", 0, 0, given[k], taken[k]);
            due(name + " - 0", 1, given[k], 0, taken[k]);
            due(name + " * 1", 2, given[k], 1, taken[k]);
            due(name + " as y of *", 2, 1, given[k], taken[k]);
            due(name + " / 1", 3, given[k], 1, taken[k]);
        }
    }

    private static void due(String name, int operation, long x, long y, long want) {
        Check.dueAnswer(name, want, () -> new FieldTrace().reckon(operation, x, y));
    }
}
