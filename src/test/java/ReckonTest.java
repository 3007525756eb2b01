import java.math.BigInteger;
import java.util.Random;

/** Promise 16: reckon. */
public final class ReckonTest {
    private static final BigInteger P = BigInteger.valueOf(Flag.P);
    private static final long[] EDGES = {0, 1, 2, 3, -1, -2, Flag.P - 1, Flag.P, Flag.P + 1, Flag.P - 2, 2 * Flag.P,
        3 * Flag.P, -Flag.P, Long.MAX_VALUE, Long.MIN_VALUE, (1L << 31) - 1, 1L << 31, 1L << 60, (1L << 60) - 1,
        (1L << 61) - (1L << 31), 0x1555_5555_5555_5555L};

    public static void main(String[] args) {
        for (long x : EDGES) {
            for (long y : EDGES) {
                all(x, y);
            }
        }
        Random random = new Random(61);
        for (int k = 0; k < 2000; k++) {
            all(random.nextLong(), random.nextLong());
        }
        noSuchOperation();
        Check.end();
    }

    private static void all(long x, long y) {
        BigInteger left = BigInteger.valueOf(x);
        BigInteger right = BigInteger.valueOf(y);
        due(0, x, y, left.add(right));
        due(1, x, y, left.subtract(right));
        due(2, x, y, left.multiply(right));
        if (right.mod(P).signum() == 0) {
            Check.dueThrow("reckon(3, " + x + ", " + y + ")", ArithmeticException.class,
                    () -> new FieldTrace().reckon(3, x, y));
        } else {
            due(3, x, y, left.multiply(right.modInverse(P)));
        }
    }

    private static void due(int operation, long x, long y, BigInteger want) {
        Check.due("reckon(" + operation + ", " + x + ", " + y + ")", new FieldTrace().reckon(operation, x, y),
                want.mod(P).longValueExact());
    }

    private static void noSuchOperation() {
        for (int operation : new int[] {-1, 4, Integer.MIN_VALUE, Integer.MAX_VALUE}) {
            Check.dueThrow("reckon(" + operation + ", 1, 1)", IllegalArgumentException.class,
                    () -> new FieldTrace().reckon(operation, 1, 1));
            Check.dueThrow("reckon(" + operation + ", 1, 0)", IllegalArgumentException.class,
                    () -> new FieldTrace().reckon(operation, 1, 0));
        }
    }
}
