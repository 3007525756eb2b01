/** Promises 2 and 3: encode and decode. */
public final class InstructionTest {
    public static void main(String[] args) {
        encodeOrdinary();
        encodeEdges();
        encodeTakesBadFlags();
        encodeWrong();
        decodeParts();
        decodeNoSuchWhat();
        decodeOutOfBounds();
        decodeEverySetOfFlags();
        decodeOffsetBehindPc();
        Check.end();
    }

    private static void encodeOrdinary() {
        Check.due("encode(0, -1, 1, 18436)", fresh().encode(0, -1, 1, 18436), 19796042710528L);
        Check.due("encode of zeros", fresh().encode(0, 0, 0, 0), 512L + (512L << 10) + (512L << 20));
        for (int bit = 0; bit < 15; bit++) {
            Check.due("encode of flag " + bit, fresh().encode(-512, -512, -512, 1 << bit), 1L << (30 + bit));
        }
    }

    private static void encodeEdges() {
        Check.due("encode of the lowest", fresh().encode(-512, -512, -512, 0), 0);
        Check.due("encode of the highest", fresh().encode(511, 511, 511, 32767), (1L << 45) - 1);
        Check.due("encode of dst alone", fresh().encode(511, -512, -512, 0), 1023);
        Check.due("encode of op0 alone", fresh().encode(-512, 511, -512, 0), 1023L << 10);
        Check.due("encode of op1 alone", fresh().encode(-512, -512, 511, 0), 1023L << 20);
    }

    private static void encodeTakesBadFlags() {
        long bad = fresh().encode(0, 0, 0, Flag.SUM | Flag.PRODUCT);
        Check.due("encode of bad flags", bad >>> 30, Flag.SUM | Flag.PRODUCT);
    }

    private static void encodeWrong() {
        for (int offset : new int[] {-513, 512, Integer.MIN_VALUE, Integer.MAX_VALUE}) {
            Check.dueThrow("encode of dst " + offset, IllegalArgumentException.class,
                    () -> fresh().encode(offset, 0, 0, 0));
            Check.dueThrow("encode of op0 " + offset, IllegalArgumentException.class,
                    () -> fresh().encode(0, offset, 0, 0));
            Check.dueThrow("encode of op1 " + offset, IllegalArgumentException.class,
                    () -> fresh().encode(0, 0, offset, 0));
        }
        for (int flags : new int[] {-1, 32768, Integer.MIN_VALUE, Integer.MAX_VALUE}) {
            Check.dueThrow("encode of flags " + flags, IllegalArgumentException.class,
                    () -> fresh().encode(0, 0, 0, flags));
        }
    }

    private static void decodeParts() {
        int[] offsets = {-512, -511, -1, 0, 1, 510, 511};
        for (int dst : offsets) {
            for (int op0 : offsets) {
                for (int op1 : offsets) {
                    long word = fresh().encode(dst, op0, op1, Flag.OP1_AP | Flag.ASSERT);
                    Check.due("decode of dst", fresh().decode(word, 0), dst);
                    Check.due("decode of op0", fresh().decode(word, 1), op0);
                    Check.due("decode of op1", fresh().decode(word, 2), op1);
                    Check.due("decode of flags", fresh().decode(word, 3), Flag.OP1_AP | Flag.ASSERT);
                    Check.due("decode of size", fresh().decode(word, 4), 1);
                }
            }
        }
        Check.due("decode of 0", fresh().decode(0, 0), -512);
        Check.due("size with OP1 behind pc", fresh().decode(fresh().encode(0, 0, 1, Flag.OP1_PC), 4), 2);
    }

    private static void decodeNoSuchWhat() {
        for (int what : new int[] {-1, 5, Integer.MIN_VALUE, Integer.MAX_VALUE}) {
            Check.dueThrow("decode of what " + what, IllegalArgumentException.class, () -> fresh().decode(0, what));
            Check.dueThrow("decode of no word and what " + what, IllegalArgumentException.class,
                    () -> fresh().decode(-1, what));
        }
    }

    private static void decodeOutOfBounds() {
        for (long word : new long[] {-1, 1L << 45, Flag.P, Flag.P + 5, Long.MIN_VALUE, Long.MAX_VALUE}) {
            for (int what = 0; what <= 4; what++) {
                int part = what;
                Check.dueThrow("decode of " + word, IllegalStateException.class, () -> fresh().decode(word, part));
            }
        }
    }

    private static void decodeEverySetOfFlags() {
        for (int flags = 0; flags <= 32767; flags++) {
            long word = fresh().encode(3, -4, 1, flags);
            if (isBad(flags)) {
                Check.dueThrow("decode of flags " + flags, IllegalStateException.class, () -> fresh().decode(word, 0));
            } else {
                Check.due("decode of flags " + flags, fresh().decode(word, 3), flags);
            }
        }
    }

    private static void decodeOffsetBehindPc() {
        for (int offset = -512; offset <= 511; offset++) {
            long word = fresh().encode(0, 0, offset, Flag.OP1_PC);
            if (offset != 1) {
                Check.dueThrow("decode of OP1 behind pc with " + offset, IllegalStateException.class,
                        () -> fresh().decode(word, 4));
            }
        }
    }

    /** An object may be used for 512 calls only, so each call has its own. */
    private static FieldTrace fresh() {
        return new FieldTrace();
    }

    /** Bit by bit in the document's numbering, so as not to follow the class's own way. */
    private static boolean isBad(int flags) {
        boolean[] b = new boolean[45];
        for (int bit = 30; bit < 45; bit++) {
            b[bit] = (flags >> (bit - 30)) % 2 == 1;
        }
        boolean rivals = count(b, 32, 34) > 1 || count(b, 35, 36) > 1 || count(b, 37, 39) > 1
                || count(b, 40, 41) > 1 || count(b, 42, 44) > 1;
        boolean unless = b[39] && (b[35] || b[36] || b[40] || b[42] || b[43] || b[44]);
        boolean call = b[42] && (b[40] || b[41]);
        return rivals || unless || call;
    }

    private static int count(boolean[] bits, int from, int to) {
        int count = 0;
        for (int bit = from; bit <= to; bit++) {
            count += bits[bit] ? 1 : 0;
        }
        return count;
    }
}
