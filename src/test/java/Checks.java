/** Counts the answers of one test that are not as due. */
final class Checks {
    /** A call whose answer, or exception, is looked at. */
    interface Call {
        long answer();
    }

    /** A call that answers nothing. */
    interface Deed {
        void perform();
    }

    private final String test;
    private int made;
    private int wrong;

    Checks(String test) {
        this.test = test;
    }

    void due(String what, long got, long want) {
        dueText(what, Long.toString(got), Long.toString(want));
    }

    void due(String what, boolean got) {
        dueText(what, Boolean.toString(got), "true");
    }

    void dueText(String what, String got, String want) {
        made++;
        if (!got.equals(want)) {
            wrong++;
            System.out.println(test + ": " + what + " answered " + got + ", due is " + want);
        }
    }

    void argument(String what, Call call) {
        dueText(what, outcome(call), "IllegalArgumentException");
    }

    void argument(String what, Deed deed) {
        argument(what, answering(deed));
    }

    void state(String what, Call call) {
        dueText(what, outcome(call), "IllegalStateException");
    }

    void state(String what, Deed deed) {
        state(what, answering(deed));
    }

    void none(String what, Call call) {
        dueText(what, outcome(call), "NoSuchElementException");
    }

    /** The answer as a text, or the name of the exception. */
    static String outcome(Call call) {
        try {
            return Long.toString(call.answer());
        } catch (RuntimeException e) {
            return e.getClass().getSimpleName();
        }
    }

    private static Call answering(Deed deed) {
        return () -> {
            deed.perform();
            return 0;
        };
    }

    static String outcomeOf(Deed deed) {
        return outcome(answering(deed));
    }

    void end() {
        System.out.println(test + ": " + made + " answers, " + wrong + " not as due");
        if (wrong != 0 || made == 0) {
            System.exit(1);
        }
    }
}
