/** Promises 7, 8 and 9 as far as a single step goes: each of its ten parts, and how each can fail. */
public final class StepTest {
    private static final int RES_IS_OP1 = Flag.ASSERT | Flag.OP1_PC;
    private static final int ADD = Flag.ASSERT | Flag.SUM | Flag.OP1_FP;
    private static final int MULTIPLY = Flag.ASSERT | Flag.PRODUCT | Flag.OP1_FP;

    public static void main(String[] args) {
        instruction();
        places();
        placesBeyond();
        call();
        callFails();
        placeOfOp1();
        placeOfOp1FromOp0();
        deduceSums();
        deduceProducts();
        deduceNothing();
        deduceCannotWrite();
        resSums();
        resProducts();
        resNotLookedFor();
        asserting();
        assertIntoSegments();
        jumpTo();
        jumpBy();
        jumpUnless();
        apMoves();
        apFails();
        returning();
        orderOfFailures();
        pcElsewhere();
        Check.end();
    }

    private static void instruction() {
        new Machine().fails("no instruction set", 1);
        new Machine().address(1, 0, 1, 0).fails("an address as instruction", 3);
        new Machine().number(1, 0, 1L << 45).fails("too large an instruction", 3);
        new Machine().number(1, 0, -1).fails("the largest number as instruction", 3);
        new Machine().word(0, 0, 0, 2, RES_IS_OP1).fails("OP1 behind pc with offset 2", 3);
        new Machine().word(0, 0, 0, 0, Flag.SUM | Flag.PRODUCT).fails("sum and product", 3);
        new Machine().word(0, 0, 0, 0, Flag.JUMP_UNLESS | Flag.ASSERT).fails("jump unless with assert", 3);
        new Machine().word(0, 0, 0, 0, Flag.CALL | Flag.AP_ONE).fails("call with ap plus 1", 3);
        new Machine().word(0, 0, 0, 0, Flag.OP1_AP).steps("nothing asked").register("nothing asked", 0, 1, 1)
                .register("nothing asked", 1, 2, 0).register("nothing asked", 2, 2, 0).notSet("nothing asked", 2, 0);
    }

    private static void places() {
        int[][] dst = {{0, 20}, {Flag.DST_FP, 40}};
        for (int[] base : dst) {
            for (int offset : new int[] {-20, -1, 0, 1, 23}) {
                new Machine().word(0, offset, 0, 1, RES_IS_OP1 | base[0]).number(1, 1, 9).start(0, 20, 40)
                        .steps("place of DST").holds("place of DST", 2, base[1] + offset, 0, 9);
            }
        }
        int[][] op0 = {{0, 20}, {Flag.OP0_FP, 40}};
        for (int[] base : op0) {
            for (int offset : new int[] {-19, -1, 2, 23}) {
                new Machine().word(0, 0, offset, 1, RES_IS_OP1 | Flag.SUM | base[0]).number(1, 1, 9)
                        .number(2, base[1] + offset, 100).start(0, 20, 40)
                        .steps("place of OP0").holds("place of OP0", 2, 20, 0, 109);
            }
        }
    }

    private static void placesBeyond() {
        Machine far = new Machine().word(0, 0, 0, 1, Flag.OP1_PC | Flag.AP_RES).number(1, 1, 1000).steps("ap far");
        far.register("ap far", 1, 2, 1000);
        far.word(2, 0, 0, 0, Flag.OP1_FP).steps("ap plus 0");
        far.word(3, 1, 0, 0, Flag.OP1_FP).fails("DST beyond 1000", 4);
        Machine other = new Machine().word(0, 0, 0, 1, Flag.OP1_PC | Flag.AP_RES).number(1, 1, 1000).steps("ap far");
        other.word(2, 0, 1, 0, Flag.OP1_FP).fails("OP0 beyond 1000", 4);
        Machine third = new Machine().word(0, 0, 0, 1, Flag.OP1_PC | Flag.AP_RES).number(1, 1, 1000).steps("ap far");
        third.word(2, 0, 0, 1, Flag.OP1_AP).fails("OP1 beyond 1000", 4);
        Machine low = new Machine().word(0, 0, 0, 1, Flag.OP1_PC | Flag.AP_RES).number(1, 1, -1000).steps("ap low");
        low.register("ap low", 1, 2, -1000);
        low.word(2, -1, 0, 0, Flag.OP1_FP).fails("DST below -1000", 4);
        new Machine().word(0, 64, 0, 1, RES_IS_OP1).number(1, 1, 3).fails("DST not there", 2);
        new Machine().word(0, -1, 0, 1, RES_IS_OP1).number(1, 1, 3).fails("DST before its segment", 2);
    }

    private static void call() {
        int byRes = Flag.CALL | Flag.OP1_PC | Flag.JUMP_BY;
        new Machine().word(5, 0, 1, 1, byRes).number(1, 6, 10).start(5, 20, 30).steps("call")
                .holds("call", 2, 20, 2, 30).holds("call", 2, 21, 1, 7)
                .register("call", 0, 1, 15).register("call", 1, 2, 22).register("call", 2, 2, 22);
        new Machine().word(5, 0, 1, 0, Flag.CALL | Flag.OP1_FP).start(5, 20, 30).steps("call without a jump")
                .holds("call without a jump", 2, 21, 1, 6).register("call without a jump", 0, 1, 6)
                .register("call without a jump", 1, 2, 22).register("call without a jump", 2, 2, 22);
        new Machine().word(5, 0, 1, -3, Flag.CALL | Flag.JUMP_TO).address(1, 3, 1, 33).start(5, 20, 30)
                .steps("OP1 from the pc that the call saved").register("OP1 from the saved pc", 0, 1, 33);
        new Machine().word(5, 0, 1, 0, Flag.CALL | Flag.OP1_FP).address(2, 20, 2, 30).address(2, 21, 1, 6)
                .start(5, 20, 30).steps("call where the same is saved");
    }

    private static void callFails() {
        int plain = Flag.CALL | Flag.OP1_FP;
        new Machine().word(0, 0, 1, 0, plain).number(2, 20, 30).start(0, 20, 30).fails("DST is taken", 2)
                .notSet("DST is taken", 2, 21);
        new Machine().word(0, 0, 1, 0, plain).address(2, 21, 1, 2).start(0, 20, 30).fails("OP0 is taken", 2)
                .holds("OP0 is taken", 2, 20, 2, 30);
        new Machine().word(0, 0, 0, 0, plain).start(0, 20, 30).fails("DST and OP0 at one place", 2)
                .holds("DST and OP0 at one place", 2, 20, 2, 30);
        new Machine().word(0, 0, 1, 0, plain).start(0, 63, 30).fails("OP0 not there", 2)
                .holds("OP0 not there", 2, 63, 2, 30);
        new Machine().word(0, 0, 1, 1, Flag.CALL | Flag.OP1_PC | Flag.JUMP_TO).number(1, 1, 4).start(0, 20, 30)
                .fails("call to a number", 4).holds("call to a number", 2, 20, 2, 30)
                .holds("call to a number", 2, 21, 1, 2);
    }

    private static void placeOfOp1() {
        int[][] bases = {{Flag.OP1_FP, 40}, {Flag.OP1_AP, 20}};
        for (int[] base : bases) {
            for (int offset : new int[] {-20, -1, 1, 23}) {
                new Machine().word(0, 0, 0, offset, Flag.ASSERT | base[0]).number(2, base[1] + offset, 6)
                        .start(0, 20, 40).steps("place of OP1").holds("place of OP1", 2, 20, 0, 6);
            }
        }
        new Machine().word(7, 0, 0, 1, RES_IS_OP1).number(1, 8, 6).start(7, 20, 40).steps("OP1 behind pc")
                .holds("OP1 behind pc", 2, 20, 0, 6).register("OP1 behind pc", 0, 1, 9);
        new Machine().word(63, 0, 0, 1, RES_IS_OP1).start(63, 20, 40).fails("OP1 behind the last cell", 1);
    }

    private static void placeOfOp1FromOp0() {
        new Machine().word(0, 0, 5, -2, Flag.ASSERT).address(2, 25, 3, 10).number(3, 8, 77).start(0, 20, 40)
                .steps("OP1 from OP0").holds("OP1 from OP0", 2, 20, 0, 77);
        new Machine().word(0, 0, 5, 0, Flag.ASSERT).start(0, 20, 40).fails("OP0 not set", 1);
        new Machine().word(0, 0, 44, 0, Flag.ASSERT).start(0, 20, 40).fails("OP0 not there", 1);
        new Machine().word(0, 0, 5, 0, Flag.ASSERT).number(2, 25, 3).start(0, 20, 40).fails("OP0 a number", 4);
        new Machine().word(0, 0, 5, 1, Flag.ASSERT).address(2, 25, 2, 1000).start(0, 20, 40)
                .fails("OP1 from OP0 beyond", 4);
        new Machine().word(0, 0, 5, 0, Flag.ASSERT).address(2, 25, 2, 1000).start(0, 20, 40)
                .fails("OP1 from OP0 not there", 1);
        new Machine().word(0, 0, 5, 0, Flag.AP_ONE).start(0, 20, 40).fails("OP1's place is found before all else", 1);
        new Machine().word(0, 0, 0, 0, Flag.ASSERT | Flag.SUM).address(2, 0, 2, 0)
                .fails("OP0 as OP1's base, and both added", 4);
    }

    private static void deduceSums() {
        sumDeduced("number - number", 0, 42, 0, 12, 0, 30);
        sumDeduced("number - greater number", 0, 1, 0, 2, 0, Flag.P - 1);
        sumDeduced("number - 0", 0, 1, 0, 0, 0, 1);
        sumDeduced("address - number", 3, 7, 0, 5, 3, 2);
        sumDeduced("address - P less a number", 3, 7, 0, -5, 3, 12);
        sumDeduced("address - 1000", 3, 0, 0, 1000, 3, -1000);
        sumDeduced("address - (P - 1000)", 3, 0, 0, -1000, 3, 1000);
        sumDeduced("address - address", 3, 7, 3, 5, 0, 2);
        sumDeduced("address - farther address", 3, -500, 3, 500, 0, Flag.P - 1000);
        new Machine().word(0, 0, 1, 1, ADD).address(2, 20, 3, -1000).address(2, 21, 3, 1000).start(0, 20, 40)
                .fails("deduced, but too far to be added again", 4).holds("deduced", 2, 41, 0, Flag.P - 2000);
        sumNotDeduced("number - address", 0, 42, 2, 5);
        sumNotDeduced("addresses of two segments", 3, 7, 2, 5);
        sumNotDeduced("address - 1001", 3, 1000, 0, 1001);
        sumNotDeduced("address - (P - 1001)", 3, -1000, 0, -1001);
        sumNotDeduced("address beyond -1000", 3, -1, 0, 1000);
        sumNotDeduced("address beyond 1000", 3, 1, 0, -1000);
    }

    /** DST at cell 20, OP0 at 21, OP1 at 41; once OP0 lacks and once OP1. */
    private static void sumDeduced(String name, int dstSegment, long dst, int segment, long known,
            int wantSegment, long want) {
        for (int place : new int[] {21, 41}) {
            Machine x = new Machine().word(0, 0, 1, 1, ADD);
            put(x, 20, dstSegment, dst);
            put(x, place, segment, known);
            x.start(0, 20, 40).steps(name).holds(name, 2, 62 - place, wantSegment, want);
        }
    }

    private static void sumNotDeduced(String name, int dstSegment, long dst, int segment, long known) {
        for (int place : new int[] {21, 41}) {
            Machine x = new Machine().word(0, 0, 1, 1, ADD);
            put(x, 20, dstSegment, dst);
            put(x, place, segment, known);
            x.start(0, 20, 40).fails(name, 4).notSet(name, 2, 62 - place);
        }
    }

    private static void deduceProducts() {
        for (int place : new int[] {21, 41}) {
            new Machine().word(0, 0, 1, 1, MULTIPLY).number(2, 20, 42).number(2, place, 6).start(0, 20, 40)
                    .steps("42 / 6").holds("42 / 6", 2, 62 - place, 0, 7);
            new Machine().word(0, 0, 1, 1, MULTIPLY).number(2, 20, 1).number(2, place, 3).start(0, 20, 40)
                    .steps("1 / 3").holds("1 / 3", 2, 62 - place, 0, 1537228672809129301L);
            new Machine().word(0, 0, 1, 1, MULTIPLY).number(2, 20, 9).number(2, place, 1).start(0, 20, 40)
                    .steps("9 / 1").holds("9 / 1", 2, 62 - place, 0, 9);
            new Machine().word(0, 0, 1, 1, MULTIPLY).number(2, 20, 0).number(2, place, 3).start(0, 20, 40)
                    .steps("0 / 3").holds("0 / 3", 2, 62 - place, 0, 0);
            new Machine().word(0, 0, 1, 1, MULTIPLY).number(2, 20, 42).number(2, place, 0).start(0, 20, 40)
                    .fails("42 / 0 is not deduced", 1).notSet("42 / 0", 2, 62 - place);
            new Machine().word(0, 0, 1, 1, MULTIPLY).address(2, 20, 1, 1).number(2, place, 0).start(0, 20, 40)
                    .fails("address / 0 is not deduced", 1);
            new Machine().word(0, 0, 1, 1, MULTIPLY).address(2, 20, 1, 1).number(2, place, 1).start(0, 20, 40)
                    .fails("address / number", 4);
            new Machine().word(0, 0, 1, 1, MULTIPLY).number(2, 20, 4).address(2, place, 1, 1).start(0, 20, 40)
                    .fails("number / address", 4);
        }
    }

    private static void deduceNothing() {
        new Machine().word(0, 0, 1, 1, ADD).number(2, 21, 5).start(0, 20, 40).fails("DST not set", 1)
                .notSet("DST not set", 2, 41);
        new Machine().word(0, 0, 1, 1, ADD).number(2, 20, 5).start(0, 20, 40).fails("neither is set", 1);
        new Machine().word(0, 0, 1, 1, Flag.ASSERT | Flag.OP1_FP).number(2, 20, 5).number(2, 21, 5).start(0, 20, 40)
                .fails("RES is OP1 alone", 1).notSet("RES is OP1 alone", 2, 41);
        new Machine().word(0, 0, 1, 1, Flag.SUM | Flag.OP1_FP | Flag.JUMP_BY).number(2, 20, 9).number(2, 21, 5)
                .start(0, 20, 40).fails("a sum without assert", 1).notSet("a sum without assert", 2, 41);
        new Machine().word(0, 0, 1, 1, Flag.SUM | Flag.OP1_FP).number(2, 20, 9).number(2, 21, 5)
                .start(0, 20, 40).steps("a sum nobody needs").notSet("a sum nobody needs", 2, 41);
    }

    private static void deduceCannotWrite() {
        new Machine().word(0, 0, 1, 24, ADD).number(2, 20, 9).number(2, 21, 5).start(0, 20, 40)
                .fails("OP1 not there", 2);
        new Machine().word(0, 0, 44, 1, ADD).number(2, 20, 9).number(2, 41, 5).start(0, 20, 40)
                .fails("OP0 not there", 2);
        Machine range = new Machine().word(0, 0, 1, 0, Flag.ASSERT | Flag.PRODUCT).address(2, 21, 3, 4).number(2, 20, 9);
        range.start(0, 20, 40).fails("address times what lacks", 4).notSet("address times what lacks", 3, 4);
        new Machine().word(0, 0, 1, 0, Flag.ASSERT | Flag.SUM).address(2, 21, 3, 4).address(2, 20, 3, 9)
                .start(0, 20, 40).steps("OP1 in RANGE deduced").holds("OP1 in RANGE deduced", 3, 4, 0, 5);
        new Machine().word(0, 0, 1, 0, Flag.ASSERT | Flag.SUM).address(2, 21, 3, 4).address(2, 20, 3, 3)
                .start(0, 20, 40).fails("-1 in RANGE", 2).notSet("-1 in RANGE", 3, 4);
        new Machine().word(0, 0, 1, 0, Flag.ASSERT | Flag.SUM).address(2, 21, 5, 1).address(2, 20, 5, 3)
                .start(0, 20, 40).fails("OUTPUT out of turn", 2);
        new Machine().word(0, 0, 1, 0, Flag.ASSERT | Flag.SUM).address(2, 21, 4, 1).address(2, 20, 4, 7)
                .number(4, 0, 3).start(0, 20, 40).steps("BITS by deduction").holds("BITS by deduction", 4, 2, 0, 2)
                .holds("BITS by deduction", 4, 3, 0, 5).holds("BITS by deduction", 4, 4, 0, 7);
    }

    private static void resSums() {
        sum("number + number", 0, 5, 0, 6, 0, 11);
        sum("numbers past P", 0, -1, 0, 3, 0, 2);
        sum("address + 1000", 4, 0, 0, 1000, 4, 1000);
        sum("address + (P - 1000)", 4, 0, 0, -1000, 4, -1000);
        sum("address from end to end", 4, -500, 0, 1000, 4, 500);
        sumFails("address + 1001", 4, -1000, 0, 1001);
        sumFails("address + (P - 1001)", 4, 1000, 0, -1001);
        sumFails("address beyond 1000", 4, 1, 0, 1000);
        sumFails("address beyond -1000", 4, -1, 0, -1000);
        sumFails("address + address", 4, 1, 4, 1);
    }

    private static void sum(String name, int segment0, long op0, int segment1, long op1, int segment, long want) {
        for (int place : new int[] {21, 41}) {
            Machine x = new Machine().word(0, 0, 1, 1, ADD);
            put(x, place, segment0, op0);
            put(x, 62 - place, segment1, op1);
            x.start(0, 20, 40).steps(name).holds(name, 2, 20, segment, want);
        }
    }

    private static void sumFails(String name, int segment0, long op0, int segment1, long op1) {
        for (int place : new int[] {21, 41}) {
            Machine x = new Machine().word(0, 0, 1, 1, ADD);
            put(x, place, segment0, op0);
            put(x, 62 - place, segment1, op1);
            x.start(0, 20, 40).fails(name, 4).notSet(name, 2, 20);
        }
    }

    private static void resProducts() {
        new Machine().word(0, 0, 1, 1, MULTIPLY).number(2, 21, -1).number(2, 41, -2).start(0, 20, 40)
                .steps("product").holds("product", 2, 20, 0, 2);
        new Machine().word(0, 0, 1, 1, MULTIPLY).number(2, 21, 1).address(2, 41, 1, 2).start(0, 20, 40)
                .fails("number times address", 4);
        new Machine().word(0, 0, 1, 1, MULTIPLY).address(2, 21, 1, 2).number(2, 41, 0).start(0, 20, 40)
                .fails("address times 0", 4);
        new Machine().word(0, 0, 1, 1, MULTIPLY).number(2, 21, 0).start(0, 20, 40)
                .fails("0 times what is not set", 1);
    }

    private static void resNotLookedFor() {
        new Machine().word(0, 0, 1, 1, Flag.SUM | Flag.OP1_FP | Flag.AP_ONE).start(0, 20, 40)
                .steps("no RES needed").register("no RES needed", 1, 2, 21);
        new Machine().word(0, 0, 1, 1, Flag.PRODUCT | Flag.OP1_FP | Flag.CALL).start(0, 20, 40).steps("call, no RES");
        new Machine().word(0, 0, 1, 1, Flag.SUM | Flag.OP1_FP | Flag.RETURN).address(2, 20, 2, 3)
                .address(2, 21, 2, 3).address(2, 41, 2, 3).start(0, 20, 40).steps("return, no RES")
                .register("return, no RES", 2, 2, 3);
    }

    private static void asserting() {
        new Machine().word(0, 0, 0, 1, RES_IS_OP1).number(1, 1, 8).number(2, 0, 8).steps("as it is");
        new Machine().word(0, 0, 0, 1, RES_IS_OP1).number(1, 1, 8).number(2, 0, 9).fails("another number", 2);
        new Machine().word(0, 0, 0, 1, RES_IS_OP1).number(1, 1, 8).address(2, 0, 1, 8).fails("an address", 2);
        new Machine().word(0, 0, 0, 1, RES_IS_OP1).address(1, 1, 1, 8).steps("an address written")
                .holds("an address written", 2, 0, 1, 8);
        new Machine().word(0, 0, 1, 1, ADD).number(2, 20, 3).number(2, 21, 1).number(2, 41, 1).start(0, 20, 40)
                .fails("1 + 1 = 3", 2);
        new Machine().word(0, 0, 0, 1, RES_IS_OP1).fails("OP1 not set", 1);
        new Machine().word(0, 0, 0, 1, RES_IS_OP1 | Flag.AP_RES).number(1, 1, 2000).fails("ap can't follow", 4)
                .holds("what was written stays", 2, 0, 0, 2000);
    }

    private static void assertIntoSegments() {
        int toRange = Flag.RETURN | Flag.OP1_FP;
        Machine range = new Machine().word(0, 0, 0, 0, toRange).address(2, 20, 3, 0).start(0, 20, 40);
        range.steps("fp into RANGE").register("fp into RANGE", 2, 3, 0);
        range.word(1, 0, 0, 1, RES_IS_OP1 | Flag.DST_FP).number(1, 2, 65536).fails("65536 into RANGE", 2);
        Machine good = new Machine().word(0, 0, 0, 0, toRange).address(2, 20, 3, 0).start(0, 20, 40);
        good.steps("fp into RANGE").word(1, 0, 0, 1, RES_IS_OP1 | Flag.DST_FP).number(1, 2, 65535)
                .steps("65535 into RANGE").holds("65535 into RANGE", 3, 0, 0, 65535);
    }

    private static void jumpTo() {
        new Machine().word(0, 0, 0, 1, Flag.OP1_PC | Flag.JUMP_TO).address(1, 1, 1, 50).steps("jump")
                .register("jump", 0, 1, 50);
        new Machine().word(0, 0, 0, 1, Flag.OP1_PC | Flag.JUMP_TO).address(1, 1, 5, -1000).steps("jump to nowhere")
                .register("jump to nowhere", 0, 5, -1000).fails("step nowhere", 1);
        new Machine().word(0, 0, 0, 1, Flag.OP1_PC | Flag.JUMP_TO).number(1, 1, 0).fails("jump to a number", 4);
        new Machine().word(0, 0, 0, 1, Flag.OP1_PC | Flag.JUMP_TO).fails("jump to what is not set", 1);
        new Machine().word(0, 0, 1, 1, Flag.OP1_FP | Flag.SUM | Flag.JUMP_TO).address(2, 21, 1, 8).number(2, 41, 4)
                .start(0, 20, 40).steps("jump to a sum").register("jump to a sum", 0, 1, 12);
    }

    private static void jumpBy() {
        new Machine().word(9, 0, 0, 1, Flag.OP1_PC | Flag.JUMP_BY).number(1, 10, -3).start(9, 0, 0).steps("back")
                .register("back", 0, 1, 6);
        new Machine().word(9, 0, 0, 1, Flag.OP1_PC | Flag.JUMP_BY).number(1, 10, 0).start(9, 0, 0).steps("by 0")
                .register("by 0", 0, 1, 9);
        new Machine().word(0, 0, 0, 1, Flag.OP1_PC | Flag.JUMP_BY).number(1, 1, 1000).steps("by 1000")
                .register("by 1000", 0, 1, 1000).fails("step at 1000", 1);
        new Machine().word(0, 0, 0, 1, Flag.OP1_PC | Flag.JUMP_BY).number(1, 1, -1000).steps("by -1000")
                .register("by -1000", 0, 1, -1000);
        new Machine().word(1, 0, 0, 1, Flag.OP1_PC | Flag.JUMP_BY).number(1, 2, 1000).start(1, 0, 0)
                .fails("beyond 1000", 4);
        new Machine().word(0, 0, 0, 1, Flag.OP1_PC | Flag.JUMP_BY).number(1, 1, 1001).fails("by 1001", 4);
        new Machine().word(0, 0, 0, 1, Flag.OP1_PC | Flag.JUMP_BY).number(1, 1, -1001).fails("by -1001", 4);
        new Machine().word(0, 0, 0, 1, Flag.OP1_PC | Flag.JUMP_BY).address(1, 1, 1, 2).fails("by an address", 4);
        new Machine().word(0, 0, 0, 1, Flag.OP1_PC | Flag.JUMP_BY).fails("by what is not set", 1);
    }

    private static void jumpUnless() {
        int unless = Flag.OP1_PC | Flag.JUMP_UNLESS;
        new Machine().word(0, 0, 0, 1, unless).number(2, 0, 0).number(1, 1, 7).steps("DST is 0")
                .register("DST is 0", 0, 1, 2);
        new Machine().word(0, 0, 0, 1, unless).number(2, 0, 0).steps("DST is 0, OP1 not set");
        new Machine().word(0, 0, 1, 1, unless).number(2, 0, 0).number(2, 1, 1).number(1, 1, 7)
                .steps("DST is 0, OP0 is not").register("DST is 0, OP0 is not", 0, 1, 2);
        new Machine().word(0, 0, 0, 0, Flag.OP1_FP | Flag.JUMP_UNLESS).number(2, 0, 0).steps("DST is 0, size 1")
                .register("DST is 0, size 1", 0, 1, 1);
        new Machine().word(0, 0, 0, 1, unless).number(2, 0, 1).number(1, 1, 7).steps("DST is 1")
                .register("DST is 1", 0, 1, 7);
        new Machine().word(0, 0, 0, 1, unless).address(2, 0, 1, 0).number(1, 1, 7).steps("DST is an address")
                .register("DST is an address", 0, 1, 7);
        new Machine().word(0, 0, 0, 1, unless).number(1, 1, 7).fails("DST not set", 1);
        new Machine().word(0, 0, 0, 1, unless).number(2, 0, 1).fails("OP1 not set", 1);
        new Machine().word(0, 0, 0, 1, unless).number(2, 0, 1).address(1, 1, 1, 1).fails("OP1 an address", 4);
        new Machine().word(0, 0, 0, 1, unless).number(2, 0, 1).number(1, 1, 1001).fails("OP1 too far", 4);
        new Machine().word(0, 0, 0, 1, unless | Flag.AP_ONE).number(2, 0, 1).number(1, 1, 5).steps("with ap plus 1")
                .register("with ap plus 1", 1, 2, 1).register("with ap plus 1", 0, 1, 5);
    }

    private static void apMoves() {
        new Machine().word(0, 0, 0, 0, Flag.OP1_FP | Flag.AP_ONE).start(0, 63, 3).steps("ap plus 1")
                .register("ap plus 1", 1, 2, 64).register("ap plus 1", 2, 2, 3);
        new Machine().word(0, 0, 0, 1, Flag.OP1_PC | Flag.AP_RES).number(1, 1, -4).start(0, 10, 3)
                .steps("ap minus 4").register("ap minus 4", 1, 2, 6).register("ap minus 4", 0, 1, 2);
        new Machine().word(0, 0, 1, 1, Flag.OP1_FP | Flag.AP_RES | Flag.PRODUCT).number(2, 21, 3).number(2, 41, 4)
                .start(0, 20, 40).steps("ap plus a product").register("ap plus a product", 1, 2, 32);
        new Machine().word(0, 0, 0, 1, RES_IS_OP1 | Flag.AP_RES).number(1, 1, 9).steps("assert and ap")
                .register("assert and ap", 1, 2, 9).holds("assert and ap", 2, 0, 0, 9);
    }

    private static void apFails() {
        new Machine().word(0, 0, 0, 1, Flag.OP1_PC | Flag.AP_RES).address(1, 1, 2, 4).fails("ap plus an address", 4);
        new Machine().word(0, 0, 0, 1, Flag.OP1_PC | Flag.AP_RES).number(1, 1, 1000).start(0, 1, 1)
                .fails("ap beyond 1000", 4);
        new Machine().word(0, 0, 0, 1, Flag.OP1_PC | Flag.AP_RES).number(1, 1, 1001).fails("ap plus 1001", 4);
        new Machine().word(0, 0, 0, 1, Flag.OP1_PC | Flag.AP_RES).fails("ap plus what is not set", 1);
        Machine far = new Machine().word(0, 0, 0, 1, Flag.OP1_PC | Flag.AP_RES).number(1, 1, 1000).steps("ap far");
        far.word(2, 0, 0, 0, Flag.OP1_FP | Flag.AP_ONE).fails("ap beyond by 1", 4);
        Machine call = new Machine().word(0, 0, 0, 1, Flag.OP1_PC | Flag.AP_RES).number(1, 1, 999).steps("ap far");
        call.word(2, 0, 1, 0, Flag.OP1_FP | Flag.CALL | Flag.DST_FP | Flag.OP0_FP).fails("ap beyond by a call", 4)
                .holds("ap beyond by a call", 2, 0, 2, 0).holds("ap beyond by a call", 2, 1, 1, 3);
    }

    private static void returning() {
        int back = Flag.RETURN | Flag.JUMP_TO | Flag.OP1_FP | Flag.DST_FP | Flag.OP0_FP;
        new Machine().word(0, -2, -1, -1, back).address(2, 38, 2, 5).address(2, 39, 1, 17).start(0, 20, 40)
                .steps("return").register("return", 0, 1, 17).register("return", 1, 2, 20)
                .register("return", 2, 2, 5);
        new Machine().word(0, 0, 0, 0, Flag.RETURN | Flag.OP1_FP).address(2, 20, 4, -9).start(0, 20, 40)
                .steps("return without a jump").register("return without a jump", 0, 1, 1)
                .register("return without a jump", 2, 4, -9);
        new Machine().word(0, 0, 0, 0, Flag.RETURN | Flag.OP1_FP).start(0, 20, 40).fails("return, DST not set", 1);
        new Machine().word(0, 0, 0, 0, Flag.RETURN | Flag.OP1_FP).number(2, 20, 4).start(0, 20, 40)
                .fails("return, DST a number", 4);
        new Machine().word(0, 0, 0, 0, Flag.RETURN | Flag.OP1_FP | Flag.AP_ONE).address(2, 20, 2, 1).start(0, 20, 40)
                .steps("return and ap plus 1").register("return and ap plus 1", 1, 2, 21);
    }

    private static void orderOfFailures() {
        new Machine().word(0, 0, 0, 1, Flag.RETURN | Flag.JUMP_TO | Flag.OP1_PC).number(1, 1, 4)
                .fails("pc before fp", 4);
        new Machine().word(0, 0, 0, 1, Flag.RETURN | Flag.AP_RES | Flag.OP1_PC).number(1, 1, 4000)
                .fails("ap before fp", 4);
        new Machine().word(0, 0, 0, 1, RES_IS_OP1 | Flag.JUMP_TO).number(1, 1, 4).number(2, 0, 5)
                .fails("assert before the jump", 2);
        new Machine().word(0, 0, 0, 1, RES_IS_OP1 | Flag.JUMP_TO).number(1, 1, 4)
                .fails("the jump after the assert", 4).holds("the jump after the assert", 2, 0, 0, 4);
        new Machine().word(0, 0, 1, 1, ADD | Flag.JUMP_TO).number(2, 20, 9).number(2, 21, 4).start(0, 20, 40)
                .fails("the jump after the deduction", 4).holds("the jump after the deduction", 2, 41, 0, 5);
        new Machine().word(0, 0, 1, 0, Flag.CALL | Flag.JUMP_TO).fails("call before OP1's place", 1)
                .holds("call before OP1's place", 2, 0, 2, 0).holds("call before OP1's place", 2, 1, 1, 1);
    }

    private static void pcElsewhere() {
        Machine x = new Machine();
        x.trace.number(2, 9, x.trace.encode(0, 0, 1, RES_IS_OP1 | Flag.AP_ONE));
        x.number(2, 10, 33).word(0, 0, 0, 1, Flag.OP1_PC | Flag.JUMP_TO).address(1, 1, 2, 9).start(0, 20, 20);
        x.steps("into segment 2").steps("in segment 2").holds("in segment 2", 2, 20, 0, 33)
                .register("in segment 2", 0, 2, 11);
    }

    private static void put(Machine x, int cell, int segment, long value) {
        if (segment == 0) {
            x.number(2, cell, value);
        } else {
            x.address(2, cell, segment, (int) value);
        }
    }
}
