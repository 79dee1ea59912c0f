/** Compares answers with what is due, prints what is wrong, and ends a test with its exit code. */
final class Due {
    /** One call of the class. */
    interface Call {
        int answer();
    }

    private int wrong = 0;
    private int checked = 0;

    void is(String call, int want, int got) {
        checked++;
        if (got != want) {
            say(call + " answered " + got + ", due is " + want);
        }
    }

    void throwing(String call, Class<? extends RuntimeException> want, Call made) {
        checked++;
        try {
            say(call + " answered " + made.answer() + ", due is throws." + want.getSimpleName());
        } catch (RuntimeException thrown) {
            if (thrown.getClass() != want) {
                say(call + " threw " + thrown.getClass().getSimpleName()
                        + ", due is throws." + want.getSimpleName());
            }
        }
    }

    void holds(String what, boolean held) {
        checked++;
        if (!held) {
            say(what);
        }
    }

    void end() {
        System.out.println(checked + " answers, " + wrong + " of them not as due");
        if (wrong != 0 || checked == 0) {
            System.exit(1);
        }
    }

    private void say(String text) {
        wrong++;
        // A broken class may be wrong everywhere; the first ones tell enough.
        if (wrong <= 40) {
            System.out.println(text);
        }
    }
}
