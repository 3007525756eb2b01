import java.util.Arrays;
import java.util.NoSuchElementException;

/** A processor over the field of 2^61 - 1 elements whose memory can be written once. */
public final class FieldTrace {
    private final Memory memory;
    private final Processor processor;
    private final Trace trace;
    private int latestFailure;

    public FieldTrace() {
        memory = new Memory();
        processor = new Processor(memory);
        trace = new Trace();
        latestFailure = 0;
    }

    public long encode(int dst, int op0, int op1, int flags) throws IllegalArgumentException {
        if (!Word.isOffset(dst) || !Word.isOffset(op0) || !Word.isOffset(op1)) {
            throw new IllegalArgumentException("an offset is not -512 .. 511");
        }
        if (flags < 0 || flags > Word.ALL_FLAGS) {
            throw new IllegalArgumentException("the flags are not 0 .. 32767");
        }
        return Word.of(dst, op0, op1, flags);
    }

    public int decode(long word, int what) throws IllegalArgumentException, IllegalStateException {
        if (what < 0 || what > 4) {
            throw new IllegalArgumentException("what is not 0 .. 4");
        }
        if (!Word.isInstruction(word)) {
            throw new IllegalStateException("the word is no instruction, or a bad one");
        }
        if (what == 3) {
            return Word.flagsOf(word);
        }
        return what == 4 ? Word.sizeOf(word) : Word.offsetOf(word, what);
    }

    public void number(int segment, int cell, long number)
            throws IllegalArgumentException, IllegalStateException {
        writeByHost(segment, cell, Field.reduce(number));
    }

    public void address(int segment, int cell, int target, int at)
            throws IllegalArgumentException, IllegalStateException {
        long value = Value.ofAddress(target, at);
        if (!Memory.isSegment(target) || value == Value.NONE) {
            throw new IllegalArgumentException("target and at are no address");
        }
        writeByHost(segment, cell, value);
    }

    public void start(int pc, int ap, int fp) throws IllegalArgumentException {
        if (!Memory.isCell(pc) || !Memory.isCell(ap) || !Memory.isCell(fp)) {
            throw new IllegalArgumentException("a register is not 0 .. 63");
        }
        processor.place(pc, ap, fp);
        trace.empty();
        latestFailure = 0;
    }

    public int run(int n) throws IllegalArgumentException {
        if (n < 1 || n > 100) {
            throw new IllegalArgumentException("n is not 1 .. 100");
        }
        for (int done = 0; done < n; done++) {
            if (trace.isFull()) {
                return done;
            }
            long pc = processor.pc;
            long ap = processor.ap;
            long fp = processor.fp;
            latestFailure = processor.step();
            if (latestFailure != Processor.FINE) {
                return done;
            }
            trace.add(pc, ap, fp);
        }
        return n;
    }

    public int failure() {
        return latestFailure;
    }

    public int register(int register, boolean cell) throws IllegalArgumentException {
        requireRegister(register);
        long held = register == 0 ? processor.pc : register == 1 ? processor.ap : processor.fp;
        return cell ? Value.cellOf(held) : Value.segmentOf(held);
    }

    public int segment(int segment, int cell) throws IllegalArgumentException, NoSuchElementException {
        long held = requireSet(segment, cell);
        return Value.isAddress(held) ? Value.segmentOf(held) : 0;
    }

    public long value(int segment, int cell) throws IllegalArgumentException, NoSuchElementException {
        long held = requireSet(segment, cell);
        return Value.isAddress(held) ? Value.cellOf(held) : held;
    }

    public int rows() {
        return trace.length;
    }

    public long traced(int k, int register) throws IllegalArgumentException, NoSuchElementException {
        requireRegister(register);
        if (k < 0 || k >= trace.length) {
            throw new NoSuchElementException("there is no such row");
        }
        return memory.relocate(trace.at(k, register));
    }

    public int begins(int segment) throws IllegalArgumentException {
        if (segment < 1 || segment > Memory.SEGMENTS + 1) {
            throw new IllegalArgumentException("the segment is not 1 .. 6");
        }
        return memory.beginningOf(segment);
    }

    public long relocated(int address) throws NoSuchElementException {
        if (address < 1 || address >= memory.beginningOf(Memory.SEGMENTS + 1)) {
            throw new NoSuchElementException("there is no such address");
        }
        return memory.relocatedAt(address);
    }

    public long reckon(int operation, long x, long y) throws IllegalArgumentException, ArithmeticException {
        if (operation < 0 || operation > 3) {
            throw new IllegalArgumentException("the operation is not 0 .. 3");
        }
        long left = Field.reduce(x);
        long right = Field.reduce(y);
        if (operation == 3 && right == 0) {
            throw new ArithmeticException("a division by 0");
        }
        switch (operation) {
            case 0:
                return Field.sum(left, right);
            case 1:
                return Field.difference(left, right);
            case 2:
                return Field.product(left, right);
            default:
                return Field.quotient(left, right);
        }
    }

    private void writeByHost(int segment, int cell, long value) {
        requireCell(segment, cell);
        if (!memory.write(segment, cell, value)) {
            throw new IllegalStateException("the cell does not take the value");
        }
    }

    private long requireSet(int segment, int cell) {
        requireCell(segment, cell);
        long held = memory.look(segment, cell);
        if (held == Value.NONE) {
            throw new NoSuchElementException("the cell is not set");
        }
        return held;
    }

    private static void requireCell(int segment, int cell) {
        if (!Memory.isSegment(segment) || !Memory.isCell(cell)) {
            throw new IllegalArgumentException("there is no such segment or cell");
        }
    }

    private static void requireRegister(int register) {
        if (register < 0 || register > 2) {
            throw new IllegalArgumentException("there is no such register");
        }
    }

    /** Arithmetic modulo P; all but reduce take numbers 0 .. P - 1. */
    private static final class Field {
        static final long P = (1L << 61) - 1;
        private static final int P_BITS = 61;
        private static final int HALF_BITS = 31;
        private static final long LOW_HALF = (1L << HALF_BITS) - 1;
        private static final long LOW_OF_MIDDLE = (1L << (P_BITS - HALF_BITS)) - 1;

        private Field() {
        }

        static long reduce(long x) {
            return Math.floorMod(x, P);
        }

        static long sum(long x, long y) {
            return (x + y) % P;
        }

        static long difference(long x, long y) {
            return (x - y + P) % P;
        }

        /** Multiplies in halves, as a product has up to 122 bits; modulo P, 2^61 is 1 and 2^62 is 2. */
        static long product(long x, long y) {
            long highX = x >>> HALF_BITS;
            long lowX = x & LOW_HALF;
            long highY = y >>> HALF_BITS;
            long lowY = y & LOW_HALF;
            long high = 2 * (highX * highY) % P;
            long middle = highX * lowY + lowX * highY;
            long middleHigh = middle >>> (P_BITS - HALF_BITS);
            long middleLow = ((middle & LOW_OF_MIDDLE) << HALF_BITS) % P;
            long low = lowX * lowY % P;
            return sum(sum(high, middleLow), sum(low, middleHigh));
        }

        /** x / y for y not 0: by Fermat, y to the power P - 2 is what y must be multiplied with to give 1. */
        static long quotient(long x, long y) {
            long result = x;
            long square = y;
            for (int bit = 0; bit < P_BITS; bit++) {
                if (((P - 2) >>> bit & 1) != 0) {
                    result = product(result, square);
                }
                square = product(square, square);
            }
            return result;
        }
    }

    /**
     * Values as single longs, so that a step makes no objects: a number is itself, an address lies
     * above all numbers, and NONE stands for what is not set or can't be.
     */
    private static final class Value {
        static final long NONE = -1;
        private static final long ADDRESSES = 1L << 62;
        private static final int REACH = 1000;
        private static final int CELL_BITS = 11;
        private static final long CELL_MASK = (1L << CELL_BITS) - 1;

        private Value() {
        }

        static long ofAddress(int segment, long cell) {
            if (cell < -REACH || cell > REACH) {
                return NONE;
            }
            return ADDRESSES + ((long) segment << CELL_BITS) + (cell + REACH);
        }

        static boolean isNumber(long value) {
            return value >= 0 && value < ADDRESSES;
        }

        static boolean isAddress(long value) {
            return value >= ADDRESSES;
        }

        static int segmentOf(long address) {
            return (int) ((address - ADDRESSES) >>> CELL_BITS);
        }

        static int cellOf(long address) {
            return (int) ((address - ADDRESSES) & CELL_MASK) - REACH;
        }

        static long shifted(long address, long cells) {
            return ofAddress(segmentOf(address), cellOf(address) + cells);
        }

        static long plus(long x, long y) {
            if (isNumber(x) && isNumber(y)) {
                return Field.sum(x, y);
            }
            if (isAddress(x) && isNumber(y)) {
                return further(x, y);
            }
            if (isNumber(x) && isAddress(y)) {
                return further(y, x);
            }
            return NONE;
        }

        static long minus(long x, long y) {
            if (isNumber(x) && isNumber(y)) {
                return Field.difference(x, y);
            }
            if (isAddress(x) && isNumber(y)) {
                return further(x, Field.difference(0, y));
            }
            if (isAddress(x) && isAddress(y) && segmentOf(x) == segmentOf(y)) {
                return Field.reduce(cellOf(x) - cellOf(y));
            }
            return NONE;
        }

        static long times(long x, long y) {
            return isNumber(x) && isNumber(y) ? Field.product(x, y) : NONE;
        }

        static long over(long x, long y) {
            return isNumber(x) && isNumber(y) && y != 0 ? Field.quotient(x, y) : NONE;
        }

        private static long further(long address, long n) {
            if (n <= REACH) {
                return shifted(address, n);
            }
            return n >= Field.P - REACH ? shifted(address, n - Field.P) : NONE;
        }
    }

    /** Instructions as numbers: three offsets of ten bits, then fifteen flags. */
    private static final class Word {
        static final int DST_FROM_FP = 1;
        static final int OP0_FROM_FP = 1 << 1;
        static final int OP1_BEHIND_PC = 1 << 2;
        static final int OP1_FROM_FP = 1 << 3;
        static final int OP1_FROM_AP = 1 << 4;
        static final int SUM = 1 << 5;
        static final int PRODUCT = 1 << 6;
        static final int JUMP_TO = 1 << 7;
        static final int JUMP_BY = 1 << 8;
        static final int JUMP_UNLESS = 1 << 9;
        static final int AP_PLUS_RES = 1 << 10;
        static final int AP_PLUS_ONE = 1 << 11;
        static final int CALL = 1 << 12;
        static final int RETURN = 1 << 13;
        static final int ASSERT = 1 << 14;
        static final int ALL_FLAGS = (1 << 15) - 1;
        private static final int OFFSET_BITS = 10;
        private static final int OFFSET_ZERO = 512;
        private static final int OFFSET_MASK = (1 << OFFSET_BITS) - 1;
        private static final int FLAGS_AT = 30;
        private static final long END = 1L << 45;

        private Word() {
        }

        static boolean isOffset(int offset) {
            return offset >= -OFFSET_ZERO && offset < OFFSET_ZERO;
        }

        static long of(int dst, int op0, int op1, int flags) {
            return (long) (dst + OFFSET_ZERO)
                    | (long) (op0 + OFFSET_ZERO) << OFFSET_BITS
                    | (long) (op1 + OFFSET_ZERO) << (2 * OFFSET_BITS)
                    | (long) flags << FLAGS_AT;
        }

        /** The offset of DST (0), OP0 (1) or OP1 (2). */
        static int offsetOf(long word, int which) {
            return (int) (word >>> (which * OFFSET_BITS) & OFFSET_MASK) - OFFSET_ZERO;
        }

        static int flagsOf(long word) {
            return (int) (word >>> FLAGS_AT) & ALL_FLAGS;
        }

        static int sizeOf(long word) {
            return (flagsOf(word) & OP1_BEHIND_PC) != 0 ? 2 : 1;
        }

        static boolean isInstruction(long word) {
            if (word < 0 || word >= END) {
                return false;
            }
            int flags = flagsOf(word);
            boolean misplaced = (flags & OP1_BEHIND_PC) != 0 && offsetOf(word, 2) != 1;
            return !misplaced && !hasRivals(flags) && !hasClash(flags);
        }

        private static boolean hasRivals(int flags) {
            return moreThanOne(flags & (OP1_BEHIND_PC | OP1_FROM_FP | OP1_FROM_AP))
                    || moreThanOne(flags & (SUM | PRODUCT))
                    || moreThanOne(flags & (JUMP_TO | JUMP_BY | JUMP_UNLESS))
                    || moreThanOne(flags & (AP_PLUS_RES | AP_PLUS_ONE))
                    || moreThanOne(flags & (CALL | RETURN | ASSERT));
        }

        private static boolean hasClash(int flags) {
            boolean withJumpUnless = (flags & (SUM | PRODUCT | AP_PLUS_RES | CALL | RETURN | ASSERT)) != 0;
            boolean withCall = (flags & (AP_PLUS_RES | AP_PLUS_ONE)) != 0;
            return (flags & JUMP_UNLESS) != 0 && withJumpUnless || (flags & CALL) != 0 && withCall;
        }

        private static boolean moreThanOne(int flags) {
            return Integer.bitCount(flags) > 1;
        }
    }

    /** The five segments, all in one row, and where relocation puts them. */
    private static final class Memory {
        static final int SEGMENTS = 5;
        private static final int CELLS = 64;
        private static final int RANGE = 3;
        private static final int BITS = 4;
        private static final int OUTPUT = 5;
        private static final long RANGE_END = 65536;
        private static final long BITS_END = 1L << 60;
        private static final int GROUP = 5;

        private final long[] cells;

        Memory() {
            cells = new long[SEGMENTS * CELLS];
            Arrays.fill(cells, Value.NONE);
        }

        static boolean isSegment(int segment) {
            return segment >= 1 && segment <= SEGMENTS;
        }

        static boolean isCell(int cell) {
            return cell >= 0 && cell < CELLS;
        }

        /** What a cell holds, NONE when it is not set or not there. */
        long look(int segment, int cell) {
            return isSegment(segment) && isCell(cell) ? cells[indexOf(segment, cell)] : Value.NONE;
        }

        /** Whether the value could be written; when not, nothing has changed. */
        boolean write(int segment, int cell, long value) {
            if (!isSegment(segment) || !isCell(cell) || value == Value.NONE) {
                return false;
            }
            int index = indexOf(segment, cell);
            if (cells[index] != Value.NONE) {
                return cells[index] == value;
            }
            if (!takes(segment, cell, value) || segment == BITS && !completesGroup(cell, value)) {
                return false;
            }
            cells[index] = value;
            return true;
        }

        /** Where a segment begins after relocation; of the one behind the last: where all end. */
        int beginningOf(int segment) {
            int beginning = 1;
            for (int before = 1; before < segment && before <= SEGMENTS; before++) {
                beginning += lengthOf(before);
            }
            return beginning;
        }

        long relocate(long value) {
            if (!Value.isAddress(value)) {
                return value;
            }
            return Field.reduce(beginningOf(Value.segmentOf(value)) + Value.cellOf(value));
        }

        /** The number at an address from 1 up to before the end. */
        long relocatedAt(int address) {
            int segment = SEGMENTS;
            while (segment > 1 && address < beginningOf(segment)) {
                segment--;
            }
            long held = look(segment, address - beginningOf(segment));
            return held == Value.NONE ? 0 : relocate(held);
        }

        private static int indexOf(int segment, int cell) {
            return (segment - 1) * CELLS + cell;
        }

        private int lengthOf(int segment) {
            int length = CELLS;
            while (length > 0 && look(segment, length - 1) == Value.NONE) {
                length--;
            }
            return length;
        }

        private boolean takes(int segment, int cell, long value) {
            switch (segment) {
                case RANGE:
                    return Value.isNumber(value) && value < RANGE_END;
                case BITS:
                    return cell % GROUP > 1 || Value.isNumber(value) && value < BITS_END;
                case OUTPUT:
                    // Cells of OUTPUT are set one after the other, so the one before tells of all.
                    return cell == 0 || look(OUTPUT, cell - 1) != Value.NONE;
                default:
                    return true;
            }
        }

        /**
         * Sets what follows from the two operands of a group of BITS, when this value is the later of
         * them; false, with nothing set, when a cell that follows holds another value.
         */
        private boolean completesGroup(int cell, long value) {
            int first = cell - cell % GROUP;
            if (cell > first + 1 || first + GROUP > CELLS) {
                return true;
            }
            int and = indexOf(BITS, first + 2);
            long other = cells[cell == first ? and - 1 : and - 2];
            if (other == Value.NONE) {
                return true;
            }
            if (!isOpenTo(and, value & other) || !isOpenTo(and + 1, value ^ other)
                    || !isOpenTo(and + 2, value | other)) {
                return false;
            }
            cells[and] = value & other;
            cells[and + 1] = value ^ other;
            cells[and + 2] = value | other;
            return true;
        }

        private boolean isOpenTo(int index, long value) {
            return cells[index] == Value.NONE || cells[index] == value;
        }
    }

    /** The registers, and a step; each part of a step answers how it failed, or FINE. */
    private static final class Processor {
        static final int FINE = 0;
        private static final int NOT_SET = 1;
        private static final int NOT_WRITTEN = 2;
        private static final int NO_INSTRUCTION = 3;
        private static final int NOT_RECKONED = 4;

        private final Memory memory;
        private long pc;
        private long ap;
        private long fp;
        private long newPc;
        private long newAp;
        private long newFp;
        private long word;
        private int flags;
        private long dstPlace;
        private long op0Place;
        private long op1Place;
        private long res;

        Processor(Memory memory) {
            this.memory = memory;
            pc = Value.ofAddress(1, 0);
            ap = Value.ofAddress(2, 0);
            fp = ap;
        }

        void place(int pcCell, int apCell, int fpCell) {
            pc = Value.ofAddress(1, pcCell);
            ap = Value.ofAddress(2, apCell);
            fp = Value.ofAddress(2, fpCell);
        }

        int step() {
            int failed = fetch();
            if (failed == FINE) {
                failed = placeDstAndOp0();
            }
            if (failed == FINE && has(Word.CALL)) {
                failed = saveForReturn();
            }
            if (failed == FINE) {
                failed = placeOp1();
            }
            if (failed == FINE && has(Word.ASSERT) && has(Word.SUM | Word.PRODUCT)) {
                failed = deduce();
            }
            if (failed == FINE && has(Word.ASSERT | Word.JUMP_TO | Word.JUMP_BY | Word.AP_PLUS_RES)) {
                failed = findRes();
            }
            if (failed == FINE && has(Word.ASSERT)) {
                failed = put(dstPlace, res);
            }
            return failed == FINE ? moveRegisters() : failed;
        }

        /** Finds all three before it sets one, as they stay when the step fails. */
        private int moveRegisters() {
            int failed = has(Word.JUMP_UNLESS) ? findPcUnlessDstIsZero() : findPc();
            if (failed == FINE) {
                failed = findAp();
            }
            if (failed == FINE) {
                failed = findFp();
            }
            if (failed == FINE) {
                pc = newPc;
                ap = newAp;
                fp = newFp;
            }
            return failed;
        }

        private int fetch() {
            word = look(pc);
            if (word == Value.NONE) {
                return NOT_SET;
            }
            if (!Value.isNumber(word) || !Word.isInstruction(word)) {
                return NO_INSTRUCTION;
            }
            flags = Word.flagsOf(word);
            return FINE;
        }

        private int placeDstAndOp0() {
            dstPlace = Value.shifted(has(Word.DST_FROM_FP) ? fp : ap, Word.offsetOf(word, 0));
            op0Place = Value.shifted(has(Word.OP0_FROM_FP) ? fp : ap, Word.offsetOf(word, 1));
            return reckoned(dstPlace) == FINE ? reckoned(op0Place) : NOT_RECKONED;
        }

        private int saveForReturn() {
            int failed = put(dstPlace, fp);
            return failed == FINE ? put(op0Place, behindInstruction()) : failed;
        }

        private int placeOp1() {
            long base;
            if (has(Word.OP1_BEHIND_PC)) {
                base = pc;
            } else if (has(Word.OP1_FROM_FP)) {
                base = fp;
            } else if (has(Word.OP1_FROM_AP)) {
                base = ap;
            } else {
                base = look(op0Place);
                if (!Value.isAddress(base)) {
                    return base == Value.NONE ? NOT_SET : NOT_RECKONED;
                }
            }
            op1Place = Value.shifted(base, Word.offsetOf(word, 2));
            return reckoned(op1Place);
        }

        private int deduce() {
            long dst = look(dstPlace);
            long op0 = look(op0Place);
            long op1 = look(op1Place);
            boolean lacksOp0 = op0 == Value.NONE;
            boolean lacksOp1 = op1 == Value.NONE;
            if (dst == Value.NONE || lacksOp0 == lacksOp1) {
                return FINE;
            }
            long known = lacksOp0 ? op1 : op0;
            if (has(Word.PRODUCT) && known == 0) {
                return FINE;
            }
            long found = has(Word.SUM) ? Value.minus(dst, known) : Value.over(dst, known);
            return found == Value.NONE ? NOT_RECKONED : put(lacksOp0 ? op0Place : op1Place, found);
        }

        private int findRes() {
            res = look(op1Place);
            if (res == Value.NONE) {
                return NOT_SET;
            }
            if (!has(Word.SUM | Word.PRODUCT)) {
                return FINE;
            }
            long op0 = look(op0Place);
            if (op0 == Value.NONE) {
                return NOT_SET;
            }
            res = has(Word.SUM) ? Value.plus(op0, res) : Value.times(op0, res);
            return reckoned(res);
        }

        private int findPc() {
            if (has(Word.JUMP_TO)) {
                newPc = Value.isAddress(res) ? res : Value.NONE;
            } else if (has(Word.JUMP_BY)) {
                newPc = Value.plus(pc, res);
            } else {
                newPc = behindInstruction();
            }
            return reckoned(newPc);
        }

        private int findPcUnlessDstIsZero() {
            long dst = look(dstPlace);
            if (dst == Value.NONE) {
                return NOT_SET;
            }
            if (dst == 0) {
                newPc = behindInstruction();
                return reckoned(newPc);
            }
            long distance = look(op1Place);
            newPc = Value.plus(pc, distance);
            return distance == Value.NONE ? NOT_SET : reckoned(newPc);
        }

        private int findAp() {
            if (has(Word.AP_PLUS_RES)) {
                newAp = Value.plus(ap, res);
            } else if (has(Word.AP_PLUS_ONE)) {
                newAp = Value.shifted(ap, 1);
            } else {
                newAp = has(Word.CALL) ? Value.shifted(ap, 2) : ap;
            }
            return reckoned(newAp);
        }

        private int findFp() {
            newFp = fp;
            if (has(Word.CALL)) {
                newFp = newAp;
            } else if (has(Word.RETURN)) {
                newFp = look(dstPlace);
                if (newFp == Value.NONE) {
                    return NOT_SET;
                }
            }
            return Value.isAddress(newFp) ? FINE : NOT_RECKONED;
        }

        private boolean has(int anyOfThese) {
            return (flags & anyOfThese) != 0;
        }

        private long behindInstruction() {
            return Value.shifted(pc, Word.sizeOf(word));
        }

        private long look(long place) {
            return memory.look(Value.segmentOf(place), Value.cellOf(place));
        }

        private int put(long place, long value) {
            return memory.write(Value.segmentOf(place), Value.cellOf(place), value) ? FINE : NOT_WRITTEN;
        }

        private static int reckoned(long value) {
            return value == Value.NONE ? NOT_RECKONED : FINE;
        }
    }

    /** The registers as they were before each step that was done. */
    private static final class Trace {
        private static final int ROWS = 64;
        private static final int REGISTERS = 3;

        private final long[] row;
        private int length;

        Trace() {
            row = new long[ROWS * REGISTERS];
            length = 0;
        }

        void empty() {
            length = 0;
        }

        boolean isFull() {
            return length >= ROWS;
        }

        void add(long pc, long ap, long fp) {
            if (isFull()) {
                return;
            }
            row[length * REGISTERS] = pc;
            row[length * REGISTERS + 1] = ap;
            row[length * REGISTERS + 2] = fp;
            length++;
        }

        /** What a register was in a row; NONE when there is no such row or register. */
        long at(int k, int register) {
            if (k < 0 || k >= length || register < 0 || register >= REGISTERS) {
                return Value.NONE;
            }
            return row[k * REGISTERS + register];
        }
    }
}
