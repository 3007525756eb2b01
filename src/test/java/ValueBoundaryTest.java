/** The boundaries of reckoning with values, promises 7 and 8, as steps that assert sums and products show them. */
public final class ValueBoundaryTest {
    private static final int ADD = Flag.ASSERT | Flag.SUM | Flag.OP1_FP;
    private static final int MULTIPLY = Flag.ASSERT | Flag.PRODUCT | Flag.OP1_FP;
    private static final long[] UNSET = null;

    public static void main(String[] args) {
        numberPlusNumber();
        addressPlusNumber();
        twoAddresses();
        addressMinusNumber();
        addressMinusAddress();
        onlyNumbersAreMultiplied();
        notDividedByZero();
        cellsReached();
        Boundary.end();
    }

    /** Values as a segment, or 0 for a number, and a cell or number. */
    private static long[] number(long number) {
        return new long[] {0, Math.floorMod(number, Flag.P)};
    }

    private static long[] address(int segment, int cell) {
        return new long[] {segment, cell};
    }

    /** DST at cell 20, OP0 at 21 and OP1 at 41 of segment 2. */
    private static Machine with(int flags, long[] dst, long[] op0, long[] op1) {
        Machine x = new Machine().word(0, 0, 1, 1, flags).start(0, 20, 40);
        put(x, 20, dst);
        put(x, 21, op0);
        put(x, 41, op1);
        return x;
    }

    private static void put(Machine x, int cell, long[] value) {
        if (value != null && value[0] == 0) {
            x.number(2, cell, value[1]);
        } else if (value != null) {
            x.address(2, cell, (int) value[0], (int) value[1]);
        }
    }

    private static void holds(String name, Machine x, int cell, long[] want) {
        x.holds(name, 2, cell, (int) want[0], want[1]);
    }

    private static void adds(String name, long[] one, long[] two, long[] want) {
        holds(name, with(ADD, UNSET, one, two).steps(name), 20, want);
        holds(name, with(ADD, UNSET, two, one).steps(name), 20, want);
    }

    private static void addsNot(String name, long[] one, long[] two) {
        with(ADD, UNSET, one, two).fails(name, 4).notSet(name, 2, 20);
        with(ADD, UNSET, two, one).fails(name, 4).notSet(name, 2, 20);
    }

    private static void deduces(String name, int flags, long[] dst, long[] known, long[] want) {
        holds(name, with(flags, dst, known, UNSET).steps(name), 41, want);
        holds(name, with(flags, dst, UNSET, known).steps(name), 21, want);
    }

    private static void deducesNot(String name, int flags, long[] dst, long[] known, int failure) {
        with(flags, dst, known, UNSET).fails(name, failure).notSet(name, 2, 41);
        with(flags, dst, UNSET, known).fails(name, failure).notSet(name, 2, 21);
    }

    private static void numberPlusNumber() {
        Boundary b = new Boundary(7, "sums, differences, products and quotients are taken modulo P");
        adds(b.here("(P - 2) + 1"), number(-2), number(1), number(-1));
        adds(b.beyond("(P - 1) + 1"), number(-1), number(1), number(0));
        deduces(b.here("1 - 1"), ADD, number(1), number(1), number(0));
        deduces(b.beyond("1 - 2"), ADD, number(1), number(2), number(-1));
        with(MULTIPLY, number(-1), number(2), number((1L << 60) - 1)).steps(b.here("2 * (2^60 - 1)"));
        with(MULTIPLY, number(1), number(2), number(1L << 60)).steps(b.beyond("2 * 2^60"));
        deduces(b.here("(P - 1) / 2"), MULTIPLY, number(-1), number(2), number((1L << 60) - 1));
        deduces(b.beyond("1 / 2"), MULTIPLY, number(1), number(2), number(1L << 60));
    }

    private static void addressPlusNumber() {
        Boundary low = new Boundary(7, "n cells further, with n as it is when it is at most 1000");
        adds(low.here("n = 0"), address(3, 7), number(0), address(3, 7));
        adds(low.here("n = 999"), address(3, -1000), number(999), address(3, -1));
        adds(low.here("n = 1000"), address(3, -1000), number(1000), address(3, 0));
        addsNot(low.beyond("n = 1001"), address(3, -1000), number(1001));
        addsNot(low.beyond("n = 2000"), address(3, -1000), number(2000));
        addsNot(low.beyond("n = 2^32"), address(3, 0), number(1L << 32));
        Boundary high = new Boundary(7, "as n - P when it is P - 1000 or more");
        adds(high.here("n = P - 1"), address(3, 0), number(-1), address(3, -1));
        adds(high.here("n = P - 999"), address(3, 1000), number(-999), address(3, 1));
        adds(high.here("n = P - 1000"), address(3, 1000), number(-1000), address(3, 0));
        addsNot(high.beyond("n = P - 1001"), address(3, 1000), number(-1001));
        addsNot(high.beyond("n = P - 2000"), address(3, 1000), number(-2000));
        addsNot(high.beyond("n = P - 2^32"), address(3, 0), number(-(1L << 32)));
    }

    private static void twoAddresses() {
        Boundary b = new Boundary(7, "two addresses can't be added");
        adds(b.here("number + address"), number(5), address(2, 3), address(2, 8));
        addsNot(b.beyond("addresses of one segment"), address(2, 3), address(2, 5));
        addsNot(b.beyond("addresses of two segments"), address(2, 3), address(1, 0));
        addsNot(b.beyond("an address and cell 0"), address(2, 3), address(2, 0));
    }

    private static void addressMinusNumber() {
        Boundary b = new Boundary(7, "address minus number likewise");
        deduces(b.here("minus 0"), ADD, address(3, 7), number(0), address(3, 7));
        deduces(b.here("minus 999"), ADD, address(3, 999), number(999), address(3, 0));
        deduces(b.here("minus 1000"), ADD, address(3, 1000), number(1000), address(3, 0));
        deducesNot(b.beyond("minus 1001"), ADD, address(3, 1000), number(1001), 4);
        deduces(b.here("minus (P - 1)"), ADD, address(3, 0), number(-1), address(3, 1));
        deduces(b.here("minus (P - 1000)"), ADD, address(3, -1000), number(-1000), address(3, 0));
        deducesNot(b.beyond("minus (P - 1001)"), ADD, address(3, -1000), number(-1001), 4);
    }

    private static void addressMinusAddress() {
        Boundary b = new Boundary(7, "address minus address: of the same segment, the difference of the cells as a "
                + "number (modulo P); otherwise it can't be");
        deduces(b.here("the same"), ADD, address(3, 9), address(3, 9), number(0));
        deduces(b.here("1000 cells"), ADD, address(3, 1000), address(3, 0), number(1000));
        deduces(b.here("-1 cell"), ADD, address(3, 8), address(3, 9), number(-1));
        deduces(b.here("-1000 cells"), ADD, address(3, -1000), address(3, 0), number(-1000));
        deducesNot(b.beyond("the segment before"), ADD, address(3, 9), address(2, 9), 4);
        deducesNot(b.beyond("the segment behind"), ADD, address(3, 9), address(4, 9), 4);
        deducesNot(b.beyond("number minus address"), ADD, number(9), address(3, 9), 4);
        // The difference can be, and is written, but is too much to be added to an address again.
        tooFarApart(b, address(3, 501), address(3, -500), number(1001));
        tooFarApart(b, address(3, -501), address(3, 500), number(-1001));
        tooFarApart(b, address(3, 1000), address(3, -1000), number(2000));
        tooFarApart(b, address(3, -1000), address(3, 1000), number(-2000));
    }

    private static void tooFarApart(Boundary b, long[] dst, long[] known, long[] difference) {
        String name = b.here("deduced, but not added");
        holds(name, with(ADD, dst, known, UNSET).fails(name, 4), 41, difference);
        holds(name, with(ADD, dst, UNSET, known).fails(name, 4), 21, difference);
    }

    private static void onlyNumbersAreMultiplied() {
        Boundary b = new Boundary(7, "Only numbers can be multiplied and divided");
        holds(b.here("6 * 7"), with(MULTIPLY, UNSET, number(6), number(7)).steps(b.here("6 * 7")), 20, number(42));
        holds(b.here("0 * 0"), with(MULTIPLY, UNSET, number(0), number(0)).steps(b.here("0 * 0")), 20, number(0));
        long[] one = address(2, 1);
        for (long[] other : new long[][] {number(0), number(1), one}) {
            with(MULTIPLY, UNSET, one, other).fails(b.beyond("an address times"), 4).notSet(b.beyond("times"), 2, 20);
            with(MULTIPLY, UNSET, other, one).fails(b.beyond("times an address"), 4).notSet(b.beyond("times"), 2, 20);
        }
        deduces(b.here("42 / 6"), MULTIPLY, number(42), number(6), number(7));
        deducesNot(b.beyond("an address / 1"), MULTIPLY, one, number(1), 4);
        deducesNot(b.beyond("1 / an address"), MULTIPLY, number(1), one, 4);
        deducesNot(b.beyond("0 / an address"), MULTIPLY, number(0), one, 4);
        deducesNot(b.beyond("an address / itself"), MULTIPLY, one, one, 4);
    }

    private static void notDividedByZero() {
        Boundary zero = new Boundary(7, "or, a product, DST / it (when that is not 0)");
        deduces(zero.here("5 / 1"), MULTIPLY, number(5), number(1), number(5));
        deduces(zero.here("5 / (P - 1)"), MULTIPLY, number(5), number(-1), number(-5));
        deduces(zero.here("0 / 5"), MULTIPLY, number(0), number(5), number(0));
        deducesNot(zero.beyond("5 / 0"), MULTIPLY, number(5), number(0), 1);
        deducesNot(zero.beyond("0 / 0"), MULTIPLY, number(0), number(0), 1);
        deducesNot(zero.beyond("0 / P"), MULTIPLY, number(0), number(Flag.P), 1);
    }

    private static void cellsReached() {
        Boundary b = new Boundary(7, "What would lead to a cell beyond -1000 .. 1000 can't be");
        adds(b.here("1000 + 0"), address(4, 1000), number(0), address(4, 1000));
        adds(b.here("999 + 1"), address(4, 999), number(1), address(4, 1000));
        adds(b.here("0 + 1000"), address(4, 0), number(1000), address(4, 1000));
        addsNot(b.beyond("1000 + 1"), address(4, 1000), number(1));
        addsNot(b.beyond("1 + 1000"), address(4, 1), number(1000));
        adds(b.here("-1000 + 0"), address(4, -1000), number(0), address(4, -1000));
        adds(b.here("-999 - 1"), address(4, -999), number(-1), address(4, -1000));
        adds(b.here("0 - 1000"), address(4, 0), number(-1000), address(4, -1000));
        addsNot(b.beyond("-1000 - 1"), address(4, -1000), number(-1));
        addsNot(b.beyond("-1 - 1000"), address(4, -1), number(-1000));
        deduces(b.here("deduced, -999 - 1"), ADD, address(4, -999), number(1), address(4, -1000));
        deducesNot(b.beyond("deduced, -1000 - 1"), ADD, address(4, -1000), number(1), 4);
        deduces(b.here("deduced, 999 + 1"), ADD, address(4, 999), number(-1), address(4, 1000));
        deducesNot(b.beyond("deduced, 1000 + 1"), ADD, address(4, 1000), number(-1), 4);
    }
}
