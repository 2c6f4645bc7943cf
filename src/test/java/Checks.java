/** Counts what a test finds wrong, and ends the test. */
final class Checks {
    /** A call whose answer is looked at; a boolean answer is given as it is. */
    interface Call {
        Object make();
    }

    private int made = 0;
    private int wrong = 0;

    void due(String what, Object got, Object want) {
        made++;
        if (!want.equals(got)) {
            wrong++;
            System.out.println(what + " answered " + got + ", due is " + want);
        }
    }

    /** The exception must be of the very class that is named, not of one below it. */
    void dueThrow(String what, Class<?> want, Call call) {
        due(what, answer(call), want.getSimpleName());
    }

    void dueIndex(String what, Call call) {
        dueThrow(what, IndexOutOfBoundsException.class, call);
    }

    void dueArgument(String what, Call call) {
        dueThrow(what, IllegalArgumentException.class, call);
    }

    void dueState(String what, Call call) {
        dueThrow(what, IllegalStateException.class, call);
    }

    /** What a call answers; if it throws, the name of what it throws. */
    static Object answer(Call call) {
        try {
            return call.make();
        } catch (Throwable thrown) {
            return thrown.getClass().getSimpleName();
        }
    }

    void end() {
        System.out.println(made - wrong + " checks passed, " + wrong + " failed");
        if (wrong != 0 || made == 0) {
            System.exit(1);
        }
    }
}
