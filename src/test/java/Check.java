/** Counts the answers that are not as due, prints them, and ends a test. */
final class Check {
    private final String test;
    private String sentence = "";
    private int done = 0;
    private int doneBefore = -1;
    private int wrong = 0;

    Check(String test) {
        this.test = test;
    }

    /** What follows checks these words of the document; words that nothing checks are a fault of the test. */
    void sentence(String words) {
        endSentence();
        sentence = " [" + words + "]";
        doneBefore = done;
    }

    private void endSentence() {
        if (done == doneBefore) {
            wrong++;
            System.out.println(test + ": nothing checks" + sentence);
        }
    }

    void same(String what, long got, long due) {
        done++;
        if (got != due) {
            tell(what + " answered " + got + ", due is " + due);
        }
    }

    void text(String what, String got, String due) {
        done++;
        if (!got.equals(due)) {
            tell(what + " answered " + got + ", due is " + due);
        }
    }

    void isTrue(String what, boolean holds) {
        same(what, holds ? 1 : 0, 1);
    }

    /** Samples side by side, from x, y to the right. */
    void row(String what, KeyFrames frames, int x, int y, int... due) {
        for (int i = 0; i < due.length; i++) {
            same(what + ", sample " + (x + i) + ", " + y, frames.sample(x + i, y), due[i]);
        }
    }

    /** Samples one below the other, from x, y downwards. */
    void column(String what, KeyFrames frames, int x, int y, int... due) {
        for (int i = 0; i < due.length; i++) {
            same(what + ", sample " + x + ", " + (y + i), frames.sample(x, y + i), due[i]);
        }
    }

    /** A block whose samples are all the same. */
    void flat(String what, KeyFrames frames, int column, int row, int due) {
        for (int y = 0; y < 4; y++) {
            row(what, frames, 4 * column, 4 * row + y, due, due, due, due);
        }
    }

    void refusesArgument(String what, Runnable call) {
        refuses(what, call, IllegalArgumentException.class);
    }

    void refusesState(String what, Runnable call) {
        refuses(what, call, IllegalStateException.class);
    }

    private void refuses(String what, Runnable call, Class<?> due) {
        done++;
        Class<?> thrown = null;
        try {
            call.run();
        } catch (RuntimeException e) {
            thrown = e.getClass();
        }
        if (thrown != due) {
            tell(what + " threw " + thrown + ", due is " + due);
        }
    }

    private void tell(String fault) {
        wrong++;
        System.out.println(test + sentence + ": " + fault);
    }

    void close() {
        endSentence();
        System.out.println(test + ": " + done + " checks, " + wrong + " wrong");
        if (wrong != 0 || done == 0) {
            System.exit(1);
        }
    }
}
