import java.util.Random;

/** All promises: random runs of up to 512 calls on FieldTrace, held against the Model. */
public final class ModelTest {
    private static final int RUNS = 4000;
    private static final int[] SEGMENTS = {1, 2, 2, 2, 2, 2, 3, 4, 4, 5};
    private static final int[] MODES = {Flag.OP1_PC, Flag.OP1_FP, Flag.OP1_AP, 0};
    private static final int[] RESULTS = {0, Flag.SUM, Flag.SUM, Flag.PRODUCT};
    private static final int[] JUMPS = {0, 0, 0, Flag.JUMP_TO, Flag.JUMP_BY, Flag.JUMP_UNLESS};
    private static final int[] APS = {0, Flag.AP_RES, Flag.AP_ONE, Flag.AP_ONE};
    private static final int[] DEEDS = {0, Flag.CALL, Flag.RETURN, Flag.ASSERT, Flag.ASSERT, Flag.ASSERT};
    private static final long[] NUMBERS = {0, 0, 0, 1, 1, 1, 2, 2, 3, 3, 4, 6, 8, -1, -1, -2, -3, -4, 5, 12, 10, 63,
        64, 500, 999, 1000, 1001, -999, -1000, -1001, 65535, 65536, (1L << 60) - 1, 1L << 60, Flag.P,
        Flag.P - 1, Flag.P + 2, Long.MAX_VALUE, Long.MIN_VALUE};
    private static final int[] CELLS = {0, 1, 2, 3, 4, 5, 6, 7, 8, 9, 10, 11, 12, 13, 60, 61, 62, 63, 64, -1, 999, 1000,
        -999, -1000};

    private final Random random;
    private final Twins twins;
    private final int[] outcomes;

    private ModelTest(int seed, int[] outcomes) {
        random = new Random(seed);
        twins = new Twins("run " + seed);
        this.outcomes = outcomes;
    }

    public static void main(String[] args) {
        int[] outcomes = new int[6];
        for (int seed = 0; seed < RUNS; seed++) {
            new ModelTest(seed, outcomes).play();
        }
        System.out.println("steps that failed with 1 to 4: " + outcomes[1] + ", " + outcomes[2] + ", " + outcomes[3]
                + ", " + outcomes[4] + "; steps done: " + outcomes[5]);
        for (int how = 1; how <= 5; how++) {
            Check.due("random runs meet outcome " + how, outcomes[how] > RUNS / 10 ? 1 : 0, 1);
        }
        Check.end();
    }

    private void play() {
        boolean wild = random.nextInt(4) == 0;
        while (twins.calls() < 100) {
            setUp(wild);
        }
        while (twins.calls() < 380) {
            if (random.nextInt(3) == 0) {
                setUp(wild);
            } else {
                runSome();
            }
        }
        while (twins.calls() < Twins.MOST_CALLS) {
            lookSomewhere();
        }
    }

    private void setUp(boolean wild) {
        int segment = wild ? random.nextInt(7) : pick(SEGMENTS);
        int cell = random.nextInt(wild ? 70 : 16) - (wild ? 3 : 0);
        switch (random.nextInt(5)) {
            case 0:
                int target = wild ? random.nextInt(7) : 1 + random.nextInt(5);
                twins.address(segment, cell, target, wild ? random.nextInt(2100) - 1050 : pick(CELLS));
                break;
            case 1:
            case 2:
                boolean any = wild && random.nextInt(4) == 0;
                twins.number(segment, cell, any ? random.nextLong() : NUMBERS[random.nextInt(NUMBERS.length)]);
                break;
            default:
                long word = word(wild);
                twins.number(1, random.nextInt(wild ? 64 : 16), word);
                twins.decode(word, cell % 6);
        }
    }

    private long word(boolean wild) {
        if (wild && random.nextInt(8) == 0) {
            return random.nextLong() >>> (16 + random.nextInt(6));
        }
        int mode = pick(MODES);
        int deed = pick(DEEDS);
        int jump = deed == 0 || deed == Flag.CALL || deed == Flag.RETURN || random.nextInt(3) == 0 ? pick(JUMPS) : 0;
        boolean unless = jump == Flag.JUMP_UNLESS;
        int flags = mode | jump | random.nextInt(4) | (unless ? 0 : deed | pick(RESULTS));
        if (random.nextInt(3) == 0 && (flags & Flag.CALL) == 0) {
            flags |= unless ? Flag.AP_ONE : pick(APS);
        }
        if (random.nextInt(40) == 0) {
            flags ^= 1 << random.nextInt(15);
        }
        int spread = random.nextInt(30) == 0 ? 512 : 4;
        int op1 = (mode & Flag.OP1_PC) != 0 ? 1 : random.nextInt(2 * spread) - spread;
        int dst = random.nextInt(2 * spread) - spread;
        int op0 = random.nextInt(2 * spread) - spread;
        return twins.encode(dst, op0, op1, flags);
    }

    private void runSome() {
        if (random.nextInt(3) > 0) {
            int pc = random.nextInt(40) == 0 ? 64 : random.nextInt(16);
            int ap = random.nextInt(40) == 0 ? -1 : random.nextInt(16);
            int fp = random.nextInt(40) == 0 ? 99 : random.nextInt(16);
            twins.start(pc, ap, fp);
        }
        int before = twins.model().rows();
        twins.run(random.nextInt(20) == 0 ? random.nextInt(104) - 1 : 1 + random.nextInt(4));
        twins.failure();
        twins.rows();
        outcomes[5] += twins.model().rows() - before;
        outcomes[twins.model().failure()]++;
        for (int register = -1; register <= 3; register++) {
            twins.register(register);
            twins.traced(random.nextInt(67) - 1, register);
        }
    }

    private void lookSomewhere() {
        int segment = random.nextInt(20) == 0 ? random.nextInt(8) : 1 + random.nextInt(5);
        int cell = random.nextInt(4) == 0 ? random.nextInt(68) - 2 : random.nextInt(24);
        twins.cell(segment, cell);
        if (random.nextInt(4) == 0) {
            twins.begins(segment);
            twins.relocated(random.nextInt(twins.model().begins(6) + 4) - 1);
            twins.reckon(random.nextInt(6) - 1, NUMBERS[random.nextInt(NUMBERS.length)], random.nextLong());
        }
    }

    private int pick(int[] some) {
        return some[random.nextInt(some.length)];
    }
}
