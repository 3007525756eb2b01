/** The boundaries of promises 2 and 3: encode and decode. */
public final class InstructionBoundaryTest {
    private static final long END = 1L << 45;
    /** The highest flags that go together: ASSERT, ap plus 1, jump by RES, a product, OP1 from ap, both from fp. */
    private static final int HIGHEST_FLAGS = Flag.ASSERT | Flag.AP_ONE | Flag.JUMP_BY | Flag.PRODUCT | Flag.OP1_AP
            | Flag.OP0_FP | Flag.DST_FP;

    public static void main(String[] args) {
        offsetsOfEncode();
        flagsOfEncode();
        partsOfEncode();
        whatOfDecode();
        wordsOfDecode();
        offsetsOfDecode();
        sizes();
        onlyOneOfAGroup();
        offsetBehindPc();
        jumpUnlessAlone();
        callWithoutAp();
        Boundary.end();
    }

    private static void offsetsOfEncode() {
        Boundary b = new Boundary(2, "offsets -512 .. 511");
        for (int which = 0; which <= 2; which++) {
            int shift = 10 * which;
            long others = (512L << 20 | 512L << 10 | 512L) - (512L << shift);
            encodes(b, which, -512, others);
            encodes(b, which, -511, others + (1L << shift));
            encodes(b, which, 510, others + (1022L << shift));
            encodes(b, which, 511, others + (1023L << shift));
            for (int offset : new int[] {-513, 512, -1025, 1536, Integer.MIN_VALUE, Integer.MAX_VALUE}) {
                int[] o = {0, 0, 0};
                o[which] = offset;
                Check.dueThrow(b.beyond("offset " + which + " is " + offset), IllegalArgumentException.class,
                        () -> new FieldTrace().encode(o[0], o[1], o[2], 0));
            }
        }
    }

    private static void encodes(Boundary b, int which, int offset, long want) {
        int[] o = {0, 0, 0};
        o[which] = offset;
        Check.dueAnswer(b.here("offset " + which + " is " + offset), want,
                () -> new FieldTrace().encode(o[0], o[1], o[2], 0));
    }

    private static void flagsOfEncode() {
        Boundary b = new Boundary(2, "flags 0 .. 32767");
        Check.dueAnswer(b.here("0"), 0, () -> new FieldTrace().encode(-512, -512, -512, 0));
        Check.dueAnswer(b.here("1"), 1L << 30, () -> new FieldTrace().encode(-512, -512, -512, 1));
        Check.dueAnswer(b.here("32766"), END - (1L << 31), () -> new FieldTrace().encode(-512, -512, -512, 32766));
        Check.dueAnswer(b.here("32767"), END - (1L << 30), () -> new FieldTrace().encode(-512, -512, -512, 32767));
        Check.dueAnswer(b.here("all of all"), END - 1, () -> new FieldTrace().encode(511, 511, 511, 32767));
        for (int flags : new int[] {-1, 32768, Integer.MIN_VALUE, Integer.MAX_VALUE}) {
            Check.dueThrow(b.beyond("flags " + flags), IllegalArgumentException.class,
                    () -> new FieldTrace().encode(0, 0, 0, flags));
        }
    }

    private static void partsOfEncode() {
        Boundary b = new Boundary(2, "(bit 0 for bit 30, and so on)");
        for (int bit = 0; bit <= 14; bit++) {
            int flags = 1 << bit;
            Check.dueAnswer(b.here("bit " + bit), 1L << (30 + bit),
                    () -> new FieldTrace().encode(-512, -512, -512, flags));
        }
        Check.dueThrow(b.beyond("bit 15"), IllegalArgumentException.class,
                () -> new FieldTrace().encode(-512, -512, -512, 1 << 15));
    }

    private static void whatOfDecode() {
        Boundary b = new Boundary(3, "what 0 the offset of DST, 1 that of OP0, 2 that of OP1, 3 the flags, 4 its size");
        long word = new FieldTrace().encode(-7, 8, -9, Flag.OP1_FP);
        long[] parts = {-7, 8, -9, Flag.OP1_FP, 1};
        for (int what = 0; what <= 4; what++) {
            int part = what;
            Check.dueAnswer(b.here("what " + what), parts[what], () -> new FieldTrace().decode(word, part));
        }
        for (int what : new int[] {-1, 5, Integer.MIN_VALUE, Integer.MAX_VALUE}) {
            Check.dueThrow(b.beyond("what " + what), IllegalArgumentException.class,
                    () -> new FieldTrace().decode(word, what));
        }
    }

    private static void wordsOfDecode() {
        Boundary b = new Boundary(3, "it is not below 2^45 (or below 0), or bad");
        long highest = new FieldTrace().encode(511, 511, 511, HIGHEST_FLAGS);
        decodes(b, 0, -512, -512, -512, 0);
        decodes(b, 1, -511, -512, -512, 0);
        decodes(b, highest, 511, 511, 511, HIGHEST_FLAGS);
        // The lower 45 bits of these are those of a good word, so that only the bound can refuse them.
        for (long word : new long[] {END, END + 1, END + highest, 2 * END, Long.MIN_VALUE, -END, highest - END}) {
            isNone(b, word);
        }
        for (long word : new long[] {-1, END - 1, Flag.P - 1, Flag.P, Flag.P + 1, Long.MAX_VALUE}) {
            isNone(b, word);
        }
    }

    private static void decodes(Boundary b, long word, int dst, int op0, int op1, int flags) {
        int[] parts = {dst, op0, op1, flags, 1};
        for (int what = 0; what <= 4; what++) {
            int part = what;
            Check.dueAnswer(b.here("word " + word + ", what " + what), parts[what],
                    () -> new FieldTrace().decode(word, part));
        }
    }

    private static void isNone(Boundary b, long word) {
        for (int what = 0; what <= 4; what++) {
            int part = what;
            Check.dueThrow(b.beyond("word " + word + ", what " + what), IllegalStateException.class,
                    () -> new FieldTrace().decode(word, part));
        }
    }

    private static void offsetsOfDecode() {
        Boundary b = new Boundary(3, "bits 0 to 9 the offset of DST, 10 to 19 that of OP0, 20 to 29 that of OP1");
        for (int which = 0; which <= 2; which++) {
            for (int bit = 0; bit <= 9; bit++) {
                long word = 1L << (10 * which + bit);
                for (int other = 0; other <= 2; other++) {
                    int what = other;
                    String name = "bit " + (10 * which + bit) + ", what " + what;
                    Check.dueAnswer(what == which ? b.here(name) : b.beyond(name),
                            what == which ? (1 << bit) - 512 : -512, () -> new FieldTrace().decode(word, what));
                }
            }
        }
    }

    private static void sizes() {
        Boundary b = new Boundary(3, "SIZE (2 when 32 is set, else 1)");
        Check.dueAnswer(b.here("32 is set"), 2, () -> size(1, Flag.OP1_PC));
        Check.dueAnswer(b.here("32 is set, and what goes with it"), 2,
                () -> size(1, HIGHEST_FLAGS - Flag.OP1_AP + Flag.OP1_PC));
        Check.dueAnswer(b.beyond("33 is set"), 1, () -> size(1, Flag.OP1_FP));
        Check.dueAnswer(b.beyond("31 is set"), 1, () -> size(1, Flag.OP0_FP));
        Check.dueAnswer(b.beyond("all that go together but 32"), 1, () -> size(1, HIGHEST_FLAGS));
    }

    private static int size(int op1, int flags) {
        FieldTrace x = new FieldTrace();
        return x.decode(x.encode(0, 0, op1, flags), 4);
    }

    private static void onlyOneOfAGroup() {
        Boundary b = new Boundary(3,
                "BAD when of 32 to 34, 35 and 36, 37 to 39, 40 and 41, or 42 to 44 more than one is set");
        int[][] groups = {{32, 33, 34}, {35, 36}, {37, 38, 39}, {40, 41}, {42, 43, 44}};
        for (int[] group : groups) {
            for (int one : group) {
                good(b, 1, 1 << (one - 30));
                for (int other : group) {
                    if (other != one) {
                        bad(b, 1, 1 << (one - 30) | 1 << (other - 30));
                    }
                }
            }
        }
        bad(b, 1, Flag.OP1_PC | Flag.OP1_FP | Flag.OP1_AP);
        bad(b, 1, Flag.JUMP_TO | Flag.JUMP_BY | Flag.JUMP_UNLESS);
        bad(b, 1, Flag.CALL | Flag.RETURN | Flag.ASSERT);
        good(b, 1, Flag.OP1_AP | Flag.SUM);
        good(b, 1, Flag.PRODUCT | Flag.JUMP_TO);
        good(b, 1, Flag.JUMP_BY | Flag.AP_RES);
        good(b, 1, Flag.AP_ONE | Flag.RETURN);
        good(b, 1, Flag.DST_FP | Flag.OP0_FP | Flag.OP1_PC);
    }

    private static void offsetBehindPc() {
        Boundary b = new Boundary(3, "when 32 is set and the offset of OP1 is not 1");
        good(b, 1, Flag.OP1_PC);
        for (int offset : new int[] {-512, -1, 0, 2, 3, 511}) {
            bad(b, offset, Flag.OP1_PC);
            good(b, offset, Flag.OP1_FP);
            good(b, offset, 0);
        }
    }

    private static void jumpUnlessAlone() {
        Boundary b = new Boundary(3, "when 39 is set, and one of 35, 36, 40, 42 to 44 is");
        for (int bit : new int[] {35, 36, 40, 42, 43, 44}) {
            bad(b, 1, Flag.JUMP_UNLESS | 1 << (bit - 30));
            good(b, 1, Flag.JUMP_BY | 1 << (bit - 30));
            good(b, 1, Flag.JUMP_TO | 1 << (bit - 30));
        }
        for (int bit : new int[] {30, 31, 32, 33, 34, 41}) {
            good(b, 1, Flag.JUMP_UNLESS | 1 << (bit - 30));
        }
    }

    private static void callWithoutAp() {
        Boundary b = new Boundary(3, "when 42 is set, and 40 or 41 is");
        bad(b, 1, Flag.CALL | Flag.AP_RES);
        bad(b, 1, Flag.CALL | Flag.AP_ONE);
        for (int bit : new int[] {30, 31, 32, 33, 34, 35, 36, 37, 38}) {
            good(b, 1, Flag.CALL | 1 << (bit - 30));
        }
        for (int deed : new int[] {Flag.RETURN, Flag.ASSERT}) {
            good(b, 1, deed | Flag.AP_RES);
            good(b, 1, deed | Flag.AP_ONE);
        }
    }

    private static void good(Boundary b, int op1, int flags) {
        FieldTrace x = new FieldTrace();
        Check.dueAnswer(b.here("flags " + flags + " with OP1 at " + op1), flags,
                () -> x.decode(x.encode(0, 0, op1, flags), 3));
        Check.due(b.here("a step with flags " + flags + " is not refused as bad"), failureOf(op1, flags) == 3 ? 1 : 0, 0);
    }

    private static void bad(Boundary b, int op1, int flags) {
        FieldTrace x = new FieldTrace();
        long word = x.encode(0, 0, op1, flags);
        Check.dueThrow(b.beyond("flags " + flags + " with OP1 at " + op1), IllegalStateException.class,
                () -> x.decode(word, 3));
        Check.due(b.beyond("a step with flags " + flags + " fails"), failureOf(op1, flags), 3);
    }

    private static int failureOf(int op1, int flags) {
        Machine x = new Machine().word(0, 0, 0, op1, flags);
        x.trace.run(1);
        return x.trace.failure();
    }
}
