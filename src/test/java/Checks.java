/** Counts tests; a test fails if one of its checks does not hold or if it throws. */
final class Checks {
    interface Body {
        void go();
    }

    private static final int MOST_REPORTS = 5;

    private int passed = 0;
    private int failed = 0;
    private boolean holds = true;
    private int reports = 0;
    private String test = "";

    void test(String name, Body body) {
        test = name;
        holds = true;
        reports = 0;
        try {
            body.go();
        } catch (RuntimeException e) {
            report("threw " + e);
        }
        if (holds) {
            passed++;
        } else {
            failed++;
        }
    }

    void equal(String what, long due, long got) {
        if (due != got) {
            report(what + " answered " + got + ", due is " + due);
        }
    }

    void equal(String what, String due, String got) {
        if (!due.equals(got)) {
            report(what + " answered\n  " + got + ", due is\n  " + due);
        }
    }

    void holds(String what, boolean does) {
        if (!does) {
            report(what + " does not hold");
        }
    }

    void argument(String what, Body call) {
        equal(what, "IllegalArgumentException", thrownBy(call));
    }

    void state(String what, Body call) {
        equal(what, "IllegalStateException", thrownBy(call));
    }

    static String thrownBy(Body call) {
        try {
            call.go();
            return "nothing";
        } catch (RuntimeException e) {
            return e.getClass().getSimpleName();
        }
    }

    private void report(String text) {
        holds = false;
        reports++;
        // One broken promise may fail thousands of checks: the first ones tell enough.
        if (reports <= MOST_REPORTS) {
            System.out.println(test + ": " + text);
        }
    }

    boolean close() {
        System.out.println(passed + " passed, " + failed + " failed");
        return failed == 0;
    }
}
