/** Counts the sentences of the document that do not hold, and tells the answers that are not the ones due. */
final class Check {
    static final Class<IndexOutOfBoundsException> NO_SUCH = IndexOutOfBoundsException.class;
    static final Class<IllegalArgumentException> OUT_OF_RANGE = IllegalArgumentException.class;
    static final Class<IllegalStateException> NOT_NOW = IllegalStateException.class;

    interface Call {
        void run();
    }

    /** Makes a stream in some state, a new one each time. */
    interface Make {
        CheckpointedStream make();
    }

    interface Use {
        void on(CheckpointedStream x);
    }

    interface UseOf {
        void on(CheckpointedStream x, int argument);
    }

    private static final int MOST_TOLD = 40;

    private final String test;
    private String sentence = "";
    private int sentences = 0;
    private int broken = 0;
    private int made = 0;
    private int wrong = 0;

    Check(String test) {
        this.test = test;
    }

    /** Runs the test of one sentence; an exception that comes out of it is a wrong answer too. */
    void sentence(String text, Call call) {
        sentence = text;
        sentences++;
        int madeBefore = made;
        int wrongBefore = wrong;
        try {
            call.run();
        } catch (RuntimeException e) {
            tell("threw " + e + " at " + e.getStackTrace()[0]);
        }
        if (made == madeBefore) {
            tell("looked at no answer");
        }
        if (wrong > wrongBefore) {
            broken++;
        }
    }

    void same(String what, long got, long due) {
        made++;
        if (got != due) {
            tell(what + " answered " + got + ", due is " + due);
        }
    }

    void yes(String what, boolean got) {
        same(what, got ? 1 : 0, 1);
    }

    void no(String what, boolean got) {
        same(what, got ? 1 : 0, 0);
    }

    void sameText(String what, String got, String due) {
        made++;
        if (!got.equals(due)) {
            tell(what + ": got\n  " + got + "\ndue\n  " + due);
        }
    }

    void throwsIt(String what, Class<? extends RuntimeException> due, Call call) {
        sameText(what, thrownBy(call), due.getSimpleName());
    }

    /** The call throws just this exception and changes nothing. */
    void refused(String what, Class<? extends RuntimeException> due, Make make, Use call) {
        CheckpointedStream x = make.make();
        throwsIt(what, due, () -> call.on(x));
        changesNothing(what, make, call);
    }

    /** Whether it throws or answers: behind the call each answer is what it would be without it, then and later. */
    void changesNothing(String what, Make make, Use call) {
        sameAs(what + " changes nothing", () -> {
            CheckpointedStream x = make.make();
            thrownBy(() -> call.on(x));
            return x;
        }, make);
    }

    /** Both streams give the same answers, and go on giving the same ones. */
    void sameAs(String what, Make one, Make other) {
        sameText(what, Futures.of(one), Futures.of(other));
    }

    /** The argument is taken from the least to the largest, and refused next to them and far away. */
    void takenFromTo(String what, int least, int largest, Class<? extends RuntimeException> due, Make make,
            UseOf call) {
        for (int argument = least; argument <= largest; argument++) {
            int taken = argument;
            CheckpointedStream x = make.make();
            sameText(what + " " + taken, thrownBy(() -> call.on(x, taken)), "nothing");
        }
        int[] refused = {least - 1, largest + 1, least - 1000, largest + 1000, Integer.MIN_VALUE, Integer.MAX_VALUE};
        for (int argument : refused) {
            refused(what + " " + argument, due, make, x -> call.on(x, argument));
        }
    }

    static String thrownBy(Call call) {
        try {
            call.run();
        } catch (RuntimeException e) {
            return e.getClass().getSimpleName();
        }
        return "nothing";
    }

    void finish() {
        System.out.println(test + ": " + sentences + " sentences, " + broken + " broken; "
                + made + " answers looked at, " + wrong + " wrong");
        if (wrong > 0 || made == 0) {
            System.exit(1);
        }
    }

    private void tell(String text) {
        wrong++;
        if (wrong <= MOST_TOLD) {
            System.out.println(test + ": \"" + sentence + "\": " + text);
        }
    }
}
