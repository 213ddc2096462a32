/** Counts the answers that are not as due; what the tests share. */
final class Check {
    static final String INDEX = "IndexOutOfBoundsException";
    static final String ARGUMENT = "IllegalArgumentException";
    static final String STATE = "IllegalStateException";

    private static int checks = 0;
    private static int wrong = 0;

    interface Made {
        Steamfield fresh();
    }

    interface Call {
        long answer(Steamfield x);
    }

    private Check() {
    }

    static void due(String what, long want, long got) {
        checks++;
        if (got != want) {
            fail(what + ": answered " + got + ", due is " + want);
        }
    }

    static void holds(String what, boolean holds) {
        checks++;
        if (!holds) {
            fail(what);
        }
    }

    static void same(String what, String want, String got) {
        checks++;
        if (!want.equals(got)) {
            fail(what + ": answered " + got + ", due is " + want);
        }
    }

    /** The call must throw exactly this, and leave its object as a twin that was not called, then and later. */
    static void refused(String what, String exception, Made made, Call call) {
        Steamfield called = made.fresh();
        same(what, "throws " + exception, outcome(called, call));
        same(what + ", what it left", Answers.all(made.fresh()), Answers.all(called));
        Steamfield calledToo = made.fresh();
        outcome(calledToo, call);
        same(what + ", what later calls answer", Answers.later(made.fresh()), Answers.later(calledToo));
    }

    static String outcome(Steamfield x, Call call) {
        try {
            return Long.toString(call.answer(x));
        } catch (RuntimeException e) {
            return "throws " + e.getClass().getSimpleName();
        }
    }

    private static void fail(String text) {
        wrong++;
        if (wrong <= 40) {
            System.out.println(text);
        }
    }

    static void end(String test) {
        System.out.println(test + ": " + checks + " checks, " + wrong + " wrong");
        if (wrong != 0) {
            System.exit(1);
        }
    }
}
