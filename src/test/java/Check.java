/** Counts and prints the calls whose answer is not the one that is due. */
final class Check {
    interface Call {
        long answer();
    }

    interface Deed {
        void happens();
    }

    private static int checks = 0;
    private static int wrong = 0;

    private Check() {
    }

    static void due(String call, long got, long want) {
        checks++;
        if (got != want) {
            wrong++;
            System.out.println(call + " answered " + got + ", due is " + want);
        }
    }

    static void dueAnswer(String call, long want, Call tried) {
        dueNoThrow(call, () -> due(call, tried.answer(), want));
    }

    static void dueText(String call, String got, String want) {
        checks++;
        if (!got.equals(want)) {
            wrong++;
            System.out.println(call + " answered " + got + ", due is " + want);
        }
    }

    /** The very class is asked for: an ArrayIndexOutOfBoundsException is no IllegalArgumentException. */
    static void dueThrow(String call, Class<? extends RuntimeException> want, Deed deed) {
        checks++;
        String got = "nothing";
        try {
            deed.happens();
        } catch (RuntimeException thrown) {
            got = thrown.getClass().getSimpleName();
        }
        if (!got.equals(want.getSimpleName())) {
            wrong++;
            System.out.println(call + " threw " + got + ", due is " + want.getSimpleName());
        }
    }

    static void dueNoThrow(String call, Deed deed) {
        checks++;
        try {
            deed.happens();
        } catch (RuntimeException thrown) {
            wrong++;
            System.out.println(call + " threw " + thrown + ", due is nothing");
        }
    }

    static void end() {
        System.out.println(checks + " checks, " + wrong + " wrong");
        if (checks == 0 || wrong != 0) {
            System.exit(1);
        }
    }
}
