import java.util.Random;

/** All promises: random runs of up to 512 calls on FieldTrace, held against the Model. */
public final class ModelTest {
    private static final int RUNS = 4000;
    private static final int MOST_CALLS = 512;
    private static final int[] SEGMENTS = {1, 2, 2, 2, 2, 2, 3, 4, 4, 5};
    private static final int[] MODES = {Flag.OP1_PC, Flag.OP1_FP, Flag.OP1_AP, 0};
    private static final int[] RESULTS = {0, Flag.SUM, Flag.SUM, Flag.PRODUCT};
    private static final int[] JUMPS = {0, 0, 0, Flag.JUMP_TO, Flag.JUMP_BY, Flag.JUMP_UNLESS};
    private static final int[] APS = {0, Flag.AP_RES, Flag.AP_ONE, Flag.AP_ONE};
    private static final int[] DEEDS = {0, Flag.CALL, Flag.RETURN, Flag.ASSERT, Flag.ASSERT, Flag.ASSERT};
    private static final long[] NUMBERS = {0, 0, 0, 1, 1, 1, 2, 2, 3, 3, 4, 6, 8, -1, -1, -2, -3, -4, 5, 12, 10, 63,
        64, 500, 999, 1000, 1001, -999, -1000, -1001, 65535, 65536, (1L << 60) - 1, 1L << 60, Flag.P,
        Flag.P - 1, Flag.P + 2, Long.MAX_VALUE, Long.MIN_VALUE};
    private static final int[] CELLS = {0, 1, 2, 3, 4, 5, 6, 7, 8, 9, 10, 11, 12, 13, 60, 61, 62, 63, 64, -1, 999, 1000,
        -999, -1000};

    private final Random random;
    private final FieldTrace real = new FieldTrace();
    private final Model model = new Model();
    private final int[] failures;
    private int calls = 0;

    private ModelTest(long seed, int[] failures) {
        random = new Random(seed);
        this.failures = failures;
    }

    public static void main(String[] args) {
        int[] failures = new int[6];
        for (int seed = 0; seed < RUNS; seed++) {
            new ModelTest(seed, failures).play("run " + seed);
        }
        System.out.println("steps that failed with 1 to 4: " + failures[1] + ", " + failures[2] + ", " + failures[3]
                + ", " + failures[4] + "; steps done: " + failures[5]);
        for (int how = 1; how <= 5; how++) {
            Check.due("random runs meet outcome " + how, failures[how] > RUNS / 10 ? 1 : 0, 1);
        }
        Check.end();
    }

    private void play(String name) {
        boolean wild = random.nextInt(4) == 0;
        while (calls < 100) {
            setUp(name, wild);
        }
        while (calls < 380) {
            if (random.nextInt(3) == 0) {
                setUp(name, wild);
            } else {
                runSome(name);
            }
        }
        while (calls < MOST_CALLS) {
            lookSomewhere(name);
        }
    }

    private void setUp(String name, boolean wild) {
        int segment = wild ? random.nextInt(7) : SEGMENTS[random.nextInt(SEGMENTS.length)];
        int cell = random.nextInt(wild ? 70 : 16) - (wild ? 3 : 0);
        switch (random.nextInt(5)) {
            case 0:
                int target = wild ? random.nextInt(7) : 1 + random.nextInt(5);
                int at = wild ? random.nextInt(2100) - 1050 : CELLS[random.nextInt(CELLS.length)];
                same(name + " address", () -> act(() -> real.address(segment, cell, target, at)),
                        () -> act(() -> model.address(segment, cell, target, at)));
                break;
            case 1:
            case 2:
                long number = wild && random.nextInt(4) == 0 ? random.nextLong() : NUMBERS[random.nextInt(NUMBERS.length)];
                same(name + " number", () -> act(() -> real.number(segment, cell, number)),
                        () -> act(() -> model.number(segment, cell, number)));
                break;
            default:
                long word = word(wild);
                int place = random.nextInt(wild ? 64 : 16);
                same(name + " word", () -> act(() -> real.number(1, place, word)),
                        () -> act(() -> model.number(1, place, word)));
                same(name + " decode", () -> real.decode(word, cell % 6), () -> model.decode(word, cell % 6));
        }
    }

    private long word(boolean wild) {
        if (wild && random.nextInt(8) == 0) {
            return random.nextLong() >>> (16 + random.nextInt(6));
        }
        int mode = pick(MODES);
        int deed = pick(DEEDS);
        int jump = deed == 0 || deed == Flag.CALL || deed == Flag.RETURN || random.nextInt(3) == 0 ? pick(JUMPS) : 0;
        boolean unless = jump == Flag.JUMP_UNLESS;
        int flags = mode | jump | random.nextInt(4) | (unless ? 0 : deed | pick(RESULTS));
        if (random.nextInt(3) == 0 && (flags & Flag.CALL) == 0) {
            flags |= unless ? Flag.AP_ONE : pick(APS);
        }
        if (random.nextInt(40) == 0) {
            flags ^= 1 << random.nextInt(15);
        }
        int spread = random.nextInt(30) == 0 ? 512 : 4;
        int op1 = (mode & Flag.OP1_PC) != 0 ? 1 : random.nextInt(2 * spread) - spread;
        int dst = random.nextInt(2 * spread) - spread;
        int op0 = random.nextInt(2 * spread) - spread;
        int all = flags;
        same("encode", () -> real.encode(dst, op0, op1, all), () -> model.encode(dst, op0, op1, all));
        return model.encode(dst, op0, op1, all);
    }

    private void runSome(String name) {
        if (random.nextInt(3) > 0) {
            int pc = random.nextInt(40) == 0 ? 64 : random.nextInt(16);
            int ap = random.nextInt(40) == 0 ? -1 : random.nextInt(16);
            int fp = random.nextInt(40) == 0 ? 99 : random.nextInt(16);
            same(name + " start", () -> act(() -> real.start(pc, ap, fp)), () -> act(() -> model.start(pc, ap, fp)));
        }
        int n = random.nextInt(20) == 0 ? random.nextInt(104) - 1 : 1 + random.nextInt(4);
        int before = model.rows();
        same(name + " run(" + n + ")", () -> real.run(n), () -> model.run(n));
        same(name + " failure", real::failure, model::failure);
        same(name + " rows", real::rows, model::rows);
        failures[5] += model.rows() - before;
        failures[model.failure()]++;
        for (int register = -1; register <= 3; register++) {
            int one = register;
            int row = random.nextInt(67) - 1;
            same(name + " register", () -> real.register(one, true), () -> model.register(one, true));
            same(name + " register", () -> real.register(one, false), () -> model.register(one, false));
            same(name + " traced", () -> real.traced(row, one), () -> model.traced(row, one));
        }
    }

    private void lookSomewhere(String name) {
        int segment = random.nextInt(20) == 0 ? random.nextInt(8) : 1 + random.nextInt(5);
        int cell = random.nextInt(4) == 0 ? random.nextInt(68) - 2 : random.nextInt(24);
        String where = name + " (" + segment + ", " + cell + ")";
        same(where + " segment", () -> real.segment(segment, cell), () -> model.segment(segment, cell));
        same(where + " value", () -> real.value(segment, cell), () -> model.value(segment, cell));
        if (random.nextInt(4) == 0) {
            same(name + " begins", () -> real.begins(segment), () -> model.begins(segment));
            int address = random.nextInt(model.begins(6) + 4) - 1;
            same(name + " relocated " + address, () -> real.relocated(address), () -> model.relocated(address));
            int operation = random.nextInt(6) - 1;
            long x = NUMBERS[random.nextInt(NUMBERS.length)];
            long y = random.nextLong();
            same(name + " reckon", () -> real.reckon(operation, x, y), () -> model.reckon(operation, x, y));
        }
    }

    private int pick(int[] flags) {
        return flags[random.nextInt(flags.length)];
    }

    private static long act(Check.Deed deed) {
        deed.happens();
        return 0;
    }

    private void same(String name, Check.Call got, Check.Call want) {
        calls++;
        if (calls > MOST_CALLS) {
            return;
        }
        Check.dueText(name, answerOf(got), answerOf(want));
    }

    private static String answerOf(Check.Call call) {
        try {
            return Long.toString(call.answer());
        } catch (RuntimeException thrown) {
            return "throws." + thrown.getClass().getSimpleName();
        }
    }
}
