import java.math.BigInteger;
import java.util.ArrayList;
import java.util.HashMap;
import java.util.List;
import java.util.Map;
import java.util.NoSuchElementException;

/**
 * The document told a second time, with the Java library and without regard to room or speed, so that
 * random runs of calls can be held against FieldTrace.
 */
final class Model {
    private static final BigInteger P = BigInteger.TWO.pow(61).subtract(BigInteger.ONE);
    private static final BigInteger THOUSAND = BigInteger.valueOf(1000);

    /** An address, or, with segment 0, a number. */
    private record Val(int segment, BigInteger n) {
        boolean isNumber() {
            return segment == 0;
        }
    }

    private record Place(int segment, int cell) {
    }

    private static final class StepFails extends RuntimeException {
        private static final long serialVersionUID = 1;
        final int how;

        StepFails(int how) {
            this.how = how;
        }
    }

    private final Map<Place, Val> memory = new HashMap<>();
    private final List<Val[]> trace = new ArrayList<>();
    private Val[] registers = {at(1, 0), at(2, 0), at(2, 0)};
    private int failure = 0;

    long encode(int dst, int op0, int op1, int flags) {
        for (int offset : new int[] {dst, op0, op1}) {
            require(offset >= -512 && offset <= 511);
        }
        require(flags >= 0 && flags <= 32767);
        return dst + 512 + 1024L * (op0 + 512) + 1024L * 1024 * (op1 + 512) + 1024L * 1024 * 1024 * flags;
    }

    int decode(long word, int what) {
        require(what >= 0 && what <= 4);
        if (bad(word)) {
            throw new IllegalStateException();
        }
        return what == 3 ? (int) (word >> 30) : what == 4 ? (bit(word, 32) ? 2 : 1) : offset(word, what);
    }

    void number(int segment, int cell, long number) {
        require(segment >= 1 && segment <= 5 && cell >= 0 && cell <= 63);
        if (!write(at(segment, cell), num(number))) {
            throw new IllegalStateException();
        }
    }

    void address(int segment, int cell, int target, int at) {
        require(segment >= 1 && segment <= 5 && cell >= 0 && cell <= 63);
        require(target >= 1 && target <= 5 && at >= -1000 && at <= 1000);
        if (!write(at(segment, cell), at(target, at))) {
            throw new IllegalStateException();
        }
    }

    void start(int pc, int ap, int fp) {
        for (int cell : new int[] {pc, ap, fp}) {
            require(cell >= 0 && cell <= 63);
        }
        registers = new Val[] {at(1, pc), at(2, ap), at(2, fp)};
        trace.clear();
        failure = 0;
    }

    int run(int n) {
        require(n >= 1 && n <= 100);
        int done = 0;
        while (done < n && trace.size() < 64) {
            try {
                Val[] after = step();
                trace.add(registers);
                registers = after;
                failure = 0;
                done++;
            } catch (StepFails fails) {
                failure = fails.how;
                break;
            }
        }
        return done;
    }

    int failure() {
        return failure;
    }

    int register(int register, boolean cell) {
        require(register >= 0 && register <= 2);
        return cell ? registers[register].n.intValueExact() : registers[register].segment;
    }

    int segment(int segment, int cell) {
        return held(segment, cell).segment;
    }

    long value(int segment, int cell) {
        return held(segment, cell).n.longValueExact();
    }

    int rows() {
        return trace.size();
    }

    long traced(int k, int register) {
        require(register >= 0 && register <= 2);
        if (k < 0 || k >= trace.size()) {
            throw new NoSuchElementException();
        }
        return relocate(trace.get(k)[register]);
    }

    int begins(int segment) {
        require(segment >= 1 && segment <= 6);
        int begins = 1;
        for (int before = 1; before < segment; before++) {
            int last = -1;
            for (Place place : memory.keySet()) {
                last = place.segment == before ? Math.max(last, place.cell) : last;
            }
            begins += last + 1;
        }
        return begins;
    }

    long relocated(int address) {
        List<Long> row = new ArrayList<>();
        for (int segment = 1; segment <= 5; segment++) {
            int length = begins(segment + 1) - begins(segment);
            for (int cell = 0; cell < length; cell++) {
                Val held = memory.get(new Place(segment, cell));
                row.add(held == null ? 0 : relocate(held));
            }
        }
        if (address < 1 || address > row.size()) {
            throw new NoSuchElementException();
        }
        return row.get(address - 1);
    }

    long reckon(int operation, long x, long y) {
        BigInteger a = BigInteger.valueOf(x);
        BigInteger b = BigInteger.valueOf(y);
        require(operation >= 0 && operation <= 3);
        if (operation == 3 && b.mod(P).signum() == 0) {
            throw new ArithmeticException();
        }
        BigInteger[] answers = {a.add(b), a.subtract(b), a.multiply(b), null};
        return (operation == 3 ? a.multiply(b.modInverse(P)) : answers[operation]).mod(P).longValueExact();
    }

    private static void require(boolean holds) {
        if (!holds) {
            throw new IllegalArgumentException();
        }
    }

    private static Val at(int segment, int cell) {
        return new Val(segment, BigInteger.valueOf(cell));
    }

    private static Val num(long number) {
        return new Val(0, BigInteger.valueOf(number).mod(P));
    }

    private static boolean bit(long word, int bit) {
        return (word >> bit) % 2 == 1;
    }

    private static int offset(long word, int which) {
        return (int) (word / (long) Math.pow(1024, which) % 1024) - 512;
    }

    private static int count(long word, int from, int to) {
        int count = 0;
        for (int bit = from; bit <= to; bit++) {
            count += bit(word, bit) ? 1 : 0;
        }
        return count;
    }

    private static boolean bad(long word) {
        return word < 0 || word >= 1L << 45
                || count(word, 32, 34) > 1 || count(word, 35, 36) > 1 || count(word, 37, 39) > 1
                || count(word, 40, 41) > 1 || count(word, 42, 44) > 1
                || bit(word, 32) && offset(word, 2) != 1
                || bit(word, 39) && count(word, 35, 36) + count(word, 40, 40) + count(word, 42, 44) > 0
                || bit(word, 42) && count(word, 40, 41) > 0;
    }

    private Val held(int segment, int cell) {
        require(segment >= 1 && segment <= 5 && cell >= 0 && cell <= 63);
        Val held = memory.get(new Place(segment, cell));
        if (held == null) {
            throw new NoSuchElementException();
        }
        return held;
    }

    private long relocate(Val value) {
        if (value.isNumber()) {
            return value.n.longValueExact();
        }
        return value.n.add(BigInteger.valueOf(begins(value.segment))).mod(P).longValueExact();
    }

    private boolean write(Val where, Val value) {
        int segment = where.segment;
        int cell = where.n.intValueExact();
        if (cell < 0 || cell > 63) {
            return false;
        }
        Map<Place, Val> wanted = new HashMap<>();
        wanted.put(new Place(segment, cell), value);
        if (segment == 3 && !(value.isNumber() && value.n.bitLength() <= 16)) {
            return false;
        }
        if (segment == 4 && cell % 5 <= 1) {
            if (!value.isNumber() || value.n.bitLength() > 60) {
                return false;
            }
            int first = cell / 5 * 5;
            Val other = memory.get(new Place(4, first + 1 - cell % 5));
            if (other != null && first + 4 <= 63) {
                wanted.put(new Place(4, first + 2), new Val(0, value.n.and(other.n)));
                wanted.put(new Place(4, first + 3), new Val(0, value.n.xor(other.n)));
                wanted.put(new Place(4, first + 4), new Val(0, value.n.or(other.n)));
            }
        }
        for (int before = 0; segment == 5 && before < cell; before++) {
            if (!memory.containsKey(new Place(5, before))) {
                return false;
            }
        }
        for (Map.Entry<Place, Val> entry : wanted.entrySet()) {
            Val held = memory.get(entry.getKey());
            if (held != null && !held.equals(entry.getValue())) {
                return false;
            }
        }
        memory.putAll(wanted);
        return true;
    }

    private void stepWrites(Val where, Val value) {
        if (!write(where, value)) {
            throw new StepFails(2);
        }
    }

    private Val look(Val where) {
        return memory.get(new Place(where.segment, where.n.intValueExact()));
    }

    private Val need(Val where) {
        Val held = look(where);
        if (held == null) {
            throw new StepFails(1);
        }
        return held;
    }

    private static Val needAddress(Val value) {
        if (value.isNumber()) {
            throw new StepFails(4);
        }
        return value;
    }

    private static Val move(Val address, BigInteger by) {
        BigInteger cell = address.n.add(by);
        if (cell.abs().compareTo(THOUSAND) > 0) {
            throw new StepFails(4);
        }
        return new Val(address.segment, cell);
    }

    private static Val move(Val address, int by) {
        return move(address, BigInteger.valueOf(by));
    }

    private static BigInteger signed(BigInteger n) {
        if (n.compareTo(THOUSAND) <= 0) {
            return n;
        }
        if (n.compareTo(P.subtract(THOUSAND)) >= 0) {
            return n.subtract(P);
        }
        throw new StepFails(4);
    }

    private static Val plus(Val x, Val y) {
        if (x.isNumber() && y.isNumber()) {
            return new Val(0, x.n.add(y.n).mod(P));
        }
        if (!x.isNumber() && !y.isNumber()) {
            throw new StepFails(4);
        }
        return x.isNumber() ? move(y, signed(x.n)) : move(x, signed(y.n));
    }

    private static Val minus(Val x, Val y) {
        if (!x.isNumber() && y.isNumber()) {
            return move(x, signed(y.n).negate());
        }
        if (x.segment != y.segment) {
            throw new StepFails(4);
        }
        return new Val(0, x.n.subtract(y.n).mod(P));
    }

    private static Val times(Val x, Val y, boolean divided) {
        if (!x.isNumber() || !y.isNumber()) {
            throw new StepFails(4);
        }
        return new Val(0, x.n.multiply(divided ? y.n.modInverse(P) : y.n).mod(P));
    }

    private Val[] step() {
        Val pc = registers[0];
        Val ap = registers[1];
        Val fp = registers[2];
        Val instruction = need(pc);
        if (!instruction.isNumber() || bad(instruction.n.longValueExact())) {
            throw new StepFails(3);
        }
        long word = instruction.n.longValueExact();
        int size = bit(word, 32) ? 2 : 1;
        Val dst = move(bit(word, 30) ? fp : ap, offset(word, 0));
        Val op0 = move(bit(word, 31) ? fp : ap, offset(word, 1));
        if (bit(word, 42)) {
            stepWrites(dst, fp);
            stepWrites(op0, move(pc, size));
        }
        Val base = bit(word, 32) ? pc : bit(word, 33) ? fp : bit(word, 34) ? ap : needAddress(need(op0));
        Val op1 = move(base, offset(word, 2));
        boolean product = bit(word, 36);
        boolean joined = bit(word, 35) || product;
        if (bit(word, 44) && look(dst) != null && joined && (look(op0) == null) != (look(op1) == null)) {
            Val lacking = look(op0) == null ? op0 : op1;
            Val known = need(look(op0) == null ? op1 : op0);
            if (!product) {
                stepWrites(lacking, minus(need(dst), known));
            } else if (!known.equals(num(0))) {
                stepWrites(lacking, times(need(dst), known, true));
            }
        }
        Val res = null;
        if (bit(word, 44) || bit(word, 37) || bit(word, 38) || bit(word, 40)) {
            res = !joined ? need(op1) : product ? times(need(op0), need(op1), false) : plus(need(op0), need(op1));
        }
        if (bit(word, 44)) {
            stepWrites(dst, res);
        }
        return after(word, size, dst, op1, res);
    }

    private Val[] after(long word, int size, Val dst, Val op1, Val res) {
        Val pc = move(registers[0], 0);
        if (bit(word, 37)) {
            pc = needAddress(res);
        } else if (bit(word, 38)) {
            pc = plus(pc, res);
        } else if (bit(word, 39) && !need(dst).equals(num(0))) {
            pc = plus(pc, need(op1));
        } else {
            pc = move(pc, size);
        }
        Val ap = registers[1];
        Val old = ap;
        ap = bit(word, 40) ? plus(ap, res) : bit(word, 41) ? move(ap, 1) : bit(word, 42) ? move(ap, 2) : ap;
        Val fp = bit(word, 42) ? move(old, 2) : bit(word, 43) ? needAddress(need(dst)) : registers[2];
        return new Val[] {pc, ap, fp};
    }
}
