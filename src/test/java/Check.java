/** What the cases demand; where it does not hold, an error tells the call, the answer and the one that is due. */
final class Check {
    static final Class<? extends RuntimeException> INDEX = IndexOutOfBoundsException.class;
    static final Class<? extends RuntimeException> ARGUMENT = IllegalArgumentException.class;
    static final Class<? extends RuntimeException> STATE = IllegalStateException.class;

    interface Maker {
        TriggerAnalyzer make();
    }

    interface Call {
        void make(TriggerAnalyzer x);
    }

    interface CallWith {
        void make(TriggerAnalyzer x, int argument);
    }

    private Check() {
    }

    static void same(String what, long got, long due) {
        if (got != due) {
            throw new AssertionError(what + ": answered " + got + ", due is " + due);
        }
    }

    static void sameShare(String what, double got, double due) {
        if (Double.doubleToLongBits(got) != Double.doubleToLongBits(due)) {
            throw new AssertionError(what + ": answered " + got + ", due is " + due);
        }
    }

    static void yes(String what, boolean got) {
        same(what, got ? 1 : 0, 1);
    }

    static void no(String what, boolean got) {
        same(what, got ? 1 : 0, 0);
    }

    /** The call throws just this exception, and changes nothing, whether something is explored or not. */
    static void refused(Class<? extends RuntimeException> due, Maker maker, Call call) {
        refusedAsItIs(due, maker, call);
        refusedAsItIs(due, () -> Programs.explored(maker.make()), call);
    }

    static void refusedEach(Class<? extends RuntimeException> due, Maker maker, CallWith call, int... arguments) {
        for (int argument : arguments) {
            try {
                refused(due, maker, x -> call.make(x, argument));
            } catch (AssertionError e) {
                throw new AssertionError("argument " + argument + ": " + e.getMessage());
            }
        }
    }

    /** The same for one state of the object alone, which the call must leave like a twin without the call. */
    static void refusedAsItIs(Class<? extends RuntimeException> due, Maker maker, Call call) {
        TriggerAnalyzer x = maker.make();
        String thrown = thrownBy(x, call);
        if (!thrown.equals(due.getSimpleName())) {
            throw new AssertionError("threw " + thrown + ", due is " + due.getSimpleName());
        }
        String now = Telling.all(x);
        String untouched = Telling.all(maker.make());
        if (!now.equals(untouched)) {
            throw new AssertionError("the refused call changed\n    " + untouched + "\n    to\n    " + now);
        }
    }

    private static String thrownBy(TriggerAnalyzer x, Call call) {
        try {
            call.make(x);
            return "nothing";
        } catch (RuntimeException e) {
            return e.getClass().getSimpleName();
        }
    }
}
