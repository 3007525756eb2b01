/** The flags of an instruction as encode takes them: bit 0 for bit 30 of the word, and so on. */
final class Flag {
    static final int DST_FP = 1;
    static final int OP0_FP = 2;
    static final int OP1_PC = 4;
    static final int OP1_FP = 8;
    static final int OP1_AP = 16;
    static final int SUM = 32;
    static final int PRODUCT = 64;
    static final int JUMP_TO = 128;
    static final int JUMP_BY = 256;
    static final int JUMP_UNLESS = 512;
    static final int AP_RES = 1024;
    static final int AP_ONE = 2048;
    static final int CALL = 4096;
    static final int RETURN = 8192;
    static final int ASSERT = 16384;
    static final long P = 2305843009213693951L;

    private Flag() {
    }
}
