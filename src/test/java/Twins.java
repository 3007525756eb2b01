/**
 * A FieldTrace and a Model that get the same calls, at most 512; each answer of the one is held against
 * the answer of the other.
 */
final class Twins {
    static final int MOST_CALLS = 512;

    private final String name;
    private final FieldTrace real = new FieldTrace();
    private final Model model = new Model();
    private int calls = 0;

    Twins(String name) {
        this.name = name;
    }

    /** Where the answers tell what to do next: asking the Model is no call of the FieldTrace. */
    Model model() {
        return model;
    }

    int calls() {
        return calls;
    }

    long encode(int dst, int op0, int op1, int flags) {
        same("encode(" + dst + ", " + op0 + ", " + op1 + ", " + flags + ")",
                () -> real.encode(dst, op0, op1, flags), () -> model.encode(dst, op0, op1, flags));
        return model.encode(dst, op0, op1, flags);
    }

    void decode(long word, int what) {
        same("decode(" + word + ", " + what + ")", () -> real.decode(word, what), () -> model.decode(word, what));
    }

    void number(int segment, int cell, long number) {
        same("number(" + segment + ", " + cell + ", " + number + ")",
                () -> act(() -> real.number(segment, cell, number)),
                () -> act(() -> model.number(segment, cell, number)));
    }

    void address(int segment, int cell, int target, int at) {
        same("address(" + segment + ", " + cell + ", " + target + ", " + at + ")",
                () -> act(() -> real.address(segment, cell, target, at)),
                () -> act(() -> model.address(segment, cell, target, at)));
    }

    void start(int pc, int ap, int fp) {
        same("start(" + pc + ", " + ap + ", " + fp + ")",
                () -> act(() -> real.start(pc, ap, fp)), () -> act(() -> model.start(pc, ap, fp)));
    }

    void run(int n) {
        same("run(" + n + ")", () -> real.run(n), () -> model.run(n));
    }

    void failure() {
        same("failure()", real::failure, model::failure);
    }

    void register(int register) {
        for (boolean cell : new boolean[] {false, true}) {
            same("register(" + register + ", " + cell + ")",
                    () -> real.register(register, cell), () -> model.register(register, cell));
        }
    }

    void cell(int segment, int cell) {
        String where = "(" + segment + ", " + cell + ")";
        same("segment" + where, () -> real.segment(segment, cell), () -> model.segment(segment, cell));
        same("value" + where, () -> real.value(segment, cell), () -> model.value(segment, cell));
    }

    void rows() {
        same("rows()", real::rows, model::rows);
    }

    void traced(int k, int register) {
        same("traced(" + k + ", " + register + ")", () -> real.traced(k, register), () -> model.traced(k, register));
    }

    void begins(int segment) {
        same("begins(" + segment + ")", () -> real.begins(segment), () -> model.begins(segment));
    }

    void relocated(int address) {
        same("relocated(" + address + ")", () -> real.relocated(address), () -> model.relocated(address));
    }

    void reckon(int operation, long x, long y) {
        same("reckon(" + operation + ", " + x + ", " + y + ")",
                () -> real.reckon(operation, x, y), () -> model.reckon(operation, x, y));
    }

    private void same(String call, Check.Call got, Check.Call want) {
        if (calls >= MOST_CALLS) {
            return;
        }
        calls++;
        Check.dueText(name + ", call " + calls + ": " + call, answerOf(got), answerOf(want));
    }

    private static long act(Check.Deed deed) {
        deed.happens();
        return 0;
    }

    private static String answerOf(Check.Call call) {
        try {
            return Long.toString(call.answer());
        } catch (RuntimeException thrown) {
            return "throws." + thrown.getClass().getSimpleName();
        }
    }
}
