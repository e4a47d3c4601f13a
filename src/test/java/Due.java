/** Counts and prints the answers of a test that are not as due. */
final class Due {
    private final String test;
    private int asked;
    private int wrong;

    Due(String test) {
        this.test = test;
    }

    void is(String what, long got, long want) {
        asked++;
        if (got != want) {
            wrong++;
            System.out.println(test + ": " + what + " answered " + got + ", due is " + want);
        }
    }

    void is(String what, boolean got, boolean want) {
        is(what, got ? 1 : 0, want ? 1 : 0);
    }

    void argument(String what, Runnable call) {
        throwing(what, IllegalArgumentException.class, call);
    }

    void index(String what, Runnable call) {
        throwing(what, IndexOutOfBoundsException.class, call);
    }

    void state(String what, Runnable call) {
        throwing(what, IllegalStateException.class, call);
    }

    private void throwing(String what, Class<?> due, Runnable call) {
        asked++;
        Class<?> got = null;
        try {
            call.run();
        } catch (RuntimeException e) {
            got = isThrown(e) ? e.getClass() : RuntimeException.class;
        }
        if (got != due) {
            wrong++;
            System.out.println(test + ": " + what + " threw " + got + ", due is " + due);
        }
    }

    /** Tells whether the class itself threw it, not the machine or the library. */
    static boolean isThrown(RuntimeException e) {
        return e.getStackTrace().length > 0 && e.getStackTrace()[0].getClassName().equals("MixinUnits")
            && !(e instanceof ArrayIndexOutOfBoundsException);
    }

    void end() {
        System.out.println(test + ": " + asked + " answers, " + wrong + " not as due");
        if (wrong != 0) {
            System.exit(1);
        }
    }
}
