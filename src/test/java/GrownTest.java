import java.util.NoSuchElementException;
import java.util.Random;

/**
 * All promises: programs that grow where pc stands, with operands that the next step can use, so that many
 * steps are done one after the other; held against the Model.
 */
public final class GrownTest {
    private static final int RUNS = 3000;
    private static final int STEPS = 40;
    private static final int[] MODES = {0, Flag.OP1_PC, Flag.OP1_PC, Flag.OP1_FP, Flag.OP1_AP};
    private static final int[] RESULTS = {0, Flag.SUM, Flag.PRODUCT};
    private static final int[] JUMPS = {0, 0, 0, Flag.JUMP_TO, Flag.JUMP_BY, Flag.JUMP_UNLESS};
    private static final int[] APS = {0, Flag.AP_RES, Flag.AP_ONE, Flag.AP_ONE};
    private static final int[] DEEDS = {0, 0, Flag.CALL, Flag.RETURN, Flag.ASSERT, Flag.ASSERT, Flag.ASSERT};
    private static final int NOT_WITH_UNLESS = Flag.SUM | Flag.PRODUCT | Flag.AP_RES | Flag.CALL | Flag.RETURN
            | Flag.ASSERT;
    private static final int[] TARGETS = {2, 2, 2, 1, 3, 4, 5, 5};
    private static final long[] NUMBERS = {0, 1, 2, 3, 5, 9, -1, -3, 1000, -1000, 65535, 65536, 1L << 59, 1L << 60};
    private static final long[] DISTANCES = {1, 2, 2, 3, -1, -2};

    private final Random random;
    private final Twins twins;
    private final int[] outcomes;

    private GrownTest(int seed, int[] outcomes) {
        random = new Random(seed);
        twins = new Twins("grown " + seed);
        this.outcomes = outcomes;
    }

    public static void main(String[] args) {
        int[] outcomes = new int[5];
        for (int seed = 0; seed < RUNS; seed++) {
            new GrownTest(seed, outcomes).play();
        }
        System.out.println("steps done: " + outcomes[0] + "; that failed with 1 to 4: " + outcomes[1] + ", "
                + outcomes[2] + ", " + outcomes[3] + ", " + outcomes[4]);
        Check.due("many steps are done", outcomes[0] > 2 * RUNS ? 1 : 0, 1);
        Check.end();
    }

    private void play() {
        twins.start(random.nextInt(4), 4 + random.nextInt(36), 4 + random.nextInt(36));
        for (int step = 0; step < STEPS && twins.calls() < 250; step++) {
            grow();
            twins.run(1);
            twins.failure();
            for (int register = 0; register <= 2; register++) {
                twins.register(register);
            }
            outcomes[twins.model().failure()]++;
            if (twins.model().failure() != 0) {
                twins.start(random.nextInt(64), random.nextInt(64), random.nextInt(64));
            }
        }
        twins.rows();
        for (int k = -1; k <= twins.model().rows(); k++) {
            twins.traced(k, random.nextInt(3));
        }
        for (int segment = 1; segment <= 6; segment++) {
            twins.begins(segment);
        }
        for (int address = 0; address <= twins.model().begins(6) && address < 80; address++) {
            twins.relocated(address);
        }
        while (twins.calls() < Twins.MOST_CALLS) {
            twins.cell(1 + random.nextInt(5), random.nextInt(64));
        }
    }

    private void grow() {
        int segment = twins.model().register(0, false);
        int cell = twins.model().register(0, true);
        if (!isThere(cell)) {
            return;
        }
        if (isOpen(segment, cell)) {
            twins.number(segment, cell, word());
        }
        if (!isOpen(segment, cell) && twins.model().segment(segment, cell) == 0 && random.nextInt(20) > 0) {
            feed(twins.model().value(segment, cell));
        }
    }

    private long word() {
        int flags = random.nextInt(4) | pick(MODES) | pick(RESULTS) | pick(JUMPS) | pick(APS) | pick(DEEDS);
        if ((flags & Flag.JUMP_UNLESS) != 0) {
            flags &= ~NOT_WITH_UNLESS;
        }
        if ((flags & Flag.CALL) != 0) {
            flags &= ~(Flag.AP_RES | Flag.AP_ONE);
        }
        int op1 = (flags & Flag.OP1_PC) != 0 ? 1 : offset();
        return twins.encode(offset(), offset(), op1, flags);
    }

    private int offset() {
        return random.nextInt(100) == 0 ? random.nextInt(1024) - 512 : random.nextInt(9) - 4;
    }

    /** Sets, mostly, what the instruction will look at; a CALL must find its DST and OP0 open. */
    private void feed(long word) {
        int flags = (int) (word >>> 30);
        int[] dst = placeOf(word, 0, (flags & Flag.DST_FP) != 0 ? 2 : 1);
        int[] op0 = placeOf(word, 1, (flags & Flag.OP0_FP) != 0 ? 2 : 1);
        boolean fromOp0 = (flags & (Flag.OP1_PC | Flag.OP1_FP | Flag.OP1_AP)) == 0;
        boolean calls = (flags & Flag.CALL) != 0;
        if (!calls && (fromOp0 || random.nextInt(3) > 0)) {
            fill(op0, fromOp0 ? 2 : random.nextInt(4) / 3 * 2);
        }
        if (random.nextInt(4) > 0) {
            fill(op1Place(word, flags, op0), kindOfOp1(flags));
        }
        if (!calls && random.nextBoolean()) {
            fill(dst, (flags & Flag.RETURN) != 0 ? 2 : random.nextInt(4) / 3 * 2);
        }
    }

    /** What goes well as OP1: 0 a number, 1 a distance, 2 an address. */
    private int kindOfOp1(int flags) {
        if ((flags & Flag.JUMP_TO) != 0) {
            return 2;
        }
        boolean distance = (flags & (Flag.JUMP_BY | Flag.JUMP_UNLESS | Flag.AP_RES)) != 0;
        return distance ? 1 : random.nextInt(4) / 3 * 2;
    }

    private int[] placeOf(long word, int which, int register) {
        int offset = (int) (word >>> 10 * which & 1023) - 512;
        return new int[] {twins.model().register(register, false), twins.model().register(register, true) + offset};
    }

    private int[] op1Place(long word, int flags, int[] op0) {
        if ((flags & Flag.OP1_PC) != 0) {
            return placeOf(word, 2, 0);
        }
        if ((flags & (Flag.OP1_FP | Flag.OP1_AP)) != 0) {
            return placeOf(word, 2, (flags & Flag.OP1_FP) != 0 ? 2 : 1);
        }
        if (!isThere(op0[1]) || isOpen(op0[0], op0[1]) || twins.model().segment(op0[0], op0[1]) == 0) {
            return op0;
        }
        int offset = (int) (word >>> 20 & 1023) - 512;
        int cell = (int) twins.model().value(op0[0], op0[1]) + offset;
        return new int[] {twins.model().segment(op0[0], op0[1]), cell};
    }

    private void fill(int[] place, int kind) {
        if (!isThere(place[1]) || !isOpen(place[0], place[1])) {
            return;
        }
        if (kind == 2) {
            twins.address(place[0], place[1], pick(TARGETS), random.nextInt(20) == 0 ? 1000 : random.nextInt(40));
        } else {
            long[] from = kind == 1 ? DISTANCES : NUMBERS;
            twins.number(place[0], place[1], from[random.nextInt(from.length)]);
        }
    }

    private static boolean isThere(int cell) {
        return cell >= 0 && cell <= 63;
    }

    private boolean isOpen(int segment, int cell) {
        try {
            twins.model().segment(segment, cell);
            return false;
        } catch (NoSuchElementException notSet) {
            return true;
        }
    }

    private int pick(int[] some) {
        return some[random.nextInt(some.length)];
    }
}
