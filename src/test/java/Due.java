/** Compares answers with what is due, prints what is wrong, and ends a test with its exit code. */
final class Due {
    /** One call of the class. */
    interface Call {
        int answer();
    }

    private int wrong = 0;
    private int checked = 0;
    private String sentence = "";

    /** The sentence of the document that is tested from here on. */
    void sentence(String text) {
        sentence = "\"" + text + "\" ";
    }

    void is(String call, int want, int got) {
        checked++;
        if (got != want) {
            say(call + " answered " + got + ", due is " + want);
        }
    }

    void same(String what, String want, String got) {
        checked++;
        if (!got.equals(want)) {
            say(what + ": " + got + ", due is " + want);
        }
    }

    void throwing(String call, Class<? extends RuntimeException> want, Call made) {
        same(call, "throws." + want.getSimpleName(), outcome(made));
    }

    /** What a call answers, written out; of one that throws the exception's name. */
    static String outcome(Call call) {
        try {
            return String.valueOf(call.answer());
        } catch (RuntimeException thrown) {
            return "throws." + thrown.getClass().getSimpleName();
        }
    }

    void holds(String what, boolean held) {
        checked++;
        if (!held) {
            say(what);
        }
    }

    void end() {
        System.out.println(checked + " answers, " + wrong + " of them not as due");
        if (wrong != 0 || checked == 0) {
            System.exit(1);
        }
    }

    private void say(String text) {
        wrong++;
        // A broken class may be wrong everywhere; the first ones tell enough.
        if (wrong <= 40) {
            System.out.println(sentence + text);
        }
    }
}
