/** Counts the answers that are not the ones due, and tells them. */
final class Check {
    static final Class<IndexOutOfBoundsException> NO_SUCH = IndexOutOfBoundsException.class;
    static final Class<IllegalArgumentException> OUT_OF_RANGE = IllegalArgumentException.class;
    static final Class<IllegalStateException> NOT_NOW = IllegalStateException.class;

    private static final int[] BOUNDS = {-1, Integer.MIN_VALUE, Integer.MAX_VALUE};

    interface Call {
        void run();
    }

    interface CallOf {
        void run(int argument);
    }

    private final String test;
    private int wrong = 0;
    private int made = 0;

    Check(String test) {
        this.test = test;
    }

    void same(String what, long got, long due) {
        made++;
        if (got != due) {
            tell(what + " answered " + got + ", due is " + due);
        }
    }

    void yes(String what, boolean got) {
        same(what, got ? 1 : 0, 1);
    }

    void no(String what, boolean got) {
        same(what, got ? 1 : 0, 0);
    }

    void sameText(String what, String got, String due) {
        made++;
        if (!got.equals(due)) {
            tell(what + ": got\n  " + got + "\ndue\n  " + due);
        }
    }

    /** The call throws just this exception, and nothing that can be looked at has changed. */
    void refused(String what, Class<? extends RuntimeException> due, CheckpointedStream stream, Call call) {
        String before = Snapshot.of(stream);
        sameText(what, thrownBy(call), due.getSimpleName());
        sameText(what + " changes nothing", Snapshot.of(stream), before);
    }

    /** The first value past the last one, and all far away ones, are refused as not there. */
    void refusedPast(String what, int firstPast, CheckpointedStream stream, CallOf call) {
        refused(what + " " + firstPast, NO_SUCH, stream, () -> call.run(firstPast));
        for (int bound : BOUNDS) {
            refused(what + " " + bound, NO_SUCH, stream, () -> call.run(bound));
        }
    }

    static String thrownBy(Call call) {
        try {
            call.run();
        } catch (RuntimeException e) {
            return e.getClass().getSimpleName();
        }
        return "nothing";
    }

    void finish() {
        System.out.println(test + ": " + made + " answers looked at, " + wrong + " wrong");
        if (wrong > 0 || made == 0) {
            System.exit(1);
        }
    }

    private void tell(String text) {
        wrong++;
        if (wrong <= 20) {
            System.out.println(test + ": " + text);
        }
    }
}
