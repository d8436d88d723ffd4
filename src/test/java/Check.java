/** Counts the answers that are not as due, prints them, and ends a test. */
final class Check {
    private final String test;
    private int done = 0;
    private int wrong = 0;

    Check(String test) {
        this.test = test;
    }

    void same(String what, long got, long due) {
        done++;
        if (got != due) {
            wrong++;
            System.out.println(test + ": " + what + " answered " + got + ", due is " + due);
        }
    }

    void isTrue(String what, boolean holds) {
        same(what, holds ? 1 : 0, 1);
    }

    void refusesArgument(String what, Runnable call) {
        refuses(what, call, IllegalArgumentException.class);
    }

    void refusesState(String what, Runnable call) {
        refuses(what, call, IllegalStateException.class);
    }

    private void refuses(String what, Runnable call, Class<?> due) {
        done++;
        Class<?> thrown = null;
        try {
            call.run();
        } catch (RuntimeException e) {
            thrown = e.getClass();
        }
        if (thrown != due) {
            wrong++;
            System.out.println(test + ": " + what + " threw " + thrown + ", due is " + due);
        }
    }

    void close() {
        System.out.println(test + ": " + done + " checks, " + wrong + " wrong");
        if (wrong != 0 || done == 0) {
            System.exit(1);
        }
    }
}
