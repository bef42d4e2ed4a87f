/** Counts what a test finds wrong, and ends it with exit code 1 if there was something. */
final class Check {
    /** A call of the class under test. */
    interface Call {
        long answer();
    }

    /** A call with an argument that is tried with several numbers. */
    interface Ranged {
        long answer(int argument);
    }

    private final String test;
    private String about = "";
    private int wrong = 0;
    private int checked = 0;

    Check(String test) {
        this.test = test;
    }

    /** The sentence of the document that what comes next is about. */
    void about(String sentence) {
        about = sentence;
    }

    int checked() {
        return checked;
    }

    void due(String what, long got, long want) {
        checked++;
        if (got != want) {
            tell(what + " answered " + got + ", due is " + want);
        }
    }

    void due(String what, boolean got, boolean want) {
        due(what, got ? 1 : 0, want ? 1 : 0);
    }

    void isTrue(String what, boolean holds) {
        due(what, holds, true);
    }

    void noSuch(String what, Call call) {
        throwing(what, IndexOutOfBoundsException.class, call);
    }

    void badArgument(String what, Call call) {
        throwing(what, IllegalArgumentException.class, call);
    }

    void badState(String what, Call call) {
        throwing(what, IllegalStateException.class, call);
    }

    /** An argument from low to high is taken, each other one is refused as no such thing. */
    void numbers(String what, int low, int high, Ranged call) {
        range(what, IndexOutOfBoundsException.class, low, high, call);
    }

    /** An argument from low to high is taken, each other one is refused as out of range. */
    void range(String what, int low, int high, Ranged call) {
        range(what, IllegalArgumentException.class, low, high, call);
    }

    private void range(String what, Class<?> due, int low, int high, Ranged call) {
        int[] within = {low, high, low + (high - low) / 2};
        for (int number : within) {
            throwing(what + " " + number, null, () -> call.answer(number));
        }
        int[] beyond = {low - 1, high + 1, Integer.MIN_VALUE, Integer.MAX_VALUE};
        for (int number : beyond) {
            throwing(what + " " + number, due, () -> call.answer(number));
        }
    }

    /** The class of what is thrown is the very one: the machine's own exceptions are classes below the document's. */
    void throwing(String what, Class<?> due, Call call) {
        checked++;
        Class<?> got = null;
        try {
            call.answer();
        } catch (RuntimeException thrown) {
            got = thrown.getClass();
        }
        if (got != due) {
            tell(what + (got == null ? " threw nothing" : " threw " + got.getName())
                    + ", due is " + (due == null ? "nothing" : due.getName()));
        }
    }

    private void tell(String what) {
        wrong++;
        System.out.println(test + ": " + (about.isEmpty() ? "" : "[" + about + "] ") + what);
    }

    void end() {
        System.out.println(test + ": " + checked + " checked, " + wrong + " wrong");
        if (wrong > 0 || checked == 0) {
            System.exit(1);
        }
    }
}
