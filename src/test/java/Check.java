/** Counts what a test finds wrong, and ends it with exit code 1 if there was something. */
final class Check {
    /** A call of the class under test. */
    interface Call {
        long answer();
    }

    private final String test;
    private int wrong = 0;
    private int checked = 0;

    Check(String test) {
        this.test = test;
    }

    void due(String what, long got, long want) {
        checked++;
        if (got != want) {
            wrong++;
            System.out.println(test + ": " + what + " answered " + got + ", due is " + want);
        }
    }

    void due(String what, boolean got, boolean want) {
        due(what, got ? 1 : 0, want ? 1 : 0);
    }

    void isTrue(String what, boolean holds) {
        due(what, holds, true);
    }

    void noSuch(String what, Call call) {
        throwing(what, IndexOutOfBoundsException.class, call);
    }

    void badArgument(String what, Call call) {
        throwing(what, IllegalArgumentException.class, call);
    }

    void badState(String what, Call call) {
        throwing(what, IllegalStateException.class, call);
    }

    private void throwing(String what, Class<?> due, Call call) {
        checked++;
        String got;
        try {
            got = "answered " + call.answer();
        } catch (RuntimeException thrown) {
            // the very class: the machine's own exceptions are classes below those of the document
            if (thrown.getClass() == due) {
                return;
            }
            got = "threw " + thrown.getClass().getName();
        }
        wrong++;
        System.out.println(test + ": " + what + " " + got + ", due is " + due.getName());
    }

    void end() {
        System.out.println(test + ": " + checked + " checked, " + wrong + " wrong");
        if (wrong > 0 || checked == 0) {
            System.exit(1);
        }
    }
}
