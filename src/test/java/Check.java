/** Counts and prints the calls whose answer is not the one that is due. */
final class Check {
    /** A call that may throw. */
    interface Call {
        void run();
    }

    private int asked = 0;
    private int wrong = 0;

    void due(String call, long got, long want) {
        asked++;
        if (got != want) {
            tell(call + " answered " + got + ", due is " + want);
        }
    }

    void due(String call, boolean got, boolean want) {
        due(call, got ? 1 : 0, want ? 1 : 0);
    }

    void illegalArgument(String call, Call made) {
        dueThrown(call, made, IllegalArgumentException.class);
    }

    void illegalState(String call, Call made) {
        dueThrown(call, made, IllegalStateException.class);
    }

    private void dueThrown(String call, Call made, Class<?> want) {
        asked++;
        try {
            made.run();
        } catch (RuntimeException e) {
            if (e.getClass() != want) {
                tell(call + " threw " + e + ", due is " + want.getSimpleName());
            }
            return;
        }
        tell(call + " threw nothing, due is " + want.getSimpleName());
    }

    private void tell(String fault) {
        wrong++;
        if (wrong <= 50) {
            System.out.println(fault);
        }
    }

    int wrong() {
        return wrong;
    }

    /** The last line of a test: exit code 1 if an answer was wrong. */
    void end() {
        System.out.println(asked + " answers asked, " + wrong + " not as due");
        if (wrong != 0) {
            System.exit(1);
        }
    }
}
