import java.util.NoSuchElementException;

/** Counts the answers that are not as due, prints each, and ends the test with exit code 1 if there was one. */
final class Check {
    interface Call {
        long answer();
    }

    private int wrong;
    private int made;

    void same(String what, long got, long due) {
        made++;
        if (got != due) {
            wrong++;
            System.out.println(what + " answered " + got + ", due is " + due);
        }
    }

    void yes(String what, boolean got) {
        same(what, got ? 1 : 0, 1);
    }

    void no(String what, boolean got) {
        same(what, got ? 1 : 0, 0);
    }

    void noSuchElement(String what, Call call) {
        thrown(what, call, NoSuchElementException.class);
    }

    void illegalArgument(String what, Call call) {
        thrown(what, call, IllegalArgumentException.class);
    }

    void illegalState(String what, Call call) {
        thrown(what, call, IllegalStateException.class);
    }

    private void thrown(String what, Call call, Class<?> due) {
        made++;
        String got;
        try {
            got = "answered " + call.answer();
        } catch (RuntimeException e) {
            // The document names these classes themselves, not ones below them.
            if (e.getClass() == due) {
                return;
            }
            got = "threw " + e.getClass().getName();
        }
        wrong++;
        System.out.println(what + " " + got + ", due is " + due.getName());
    }

    void end() {
        System.out.println(made + " answers, " + wrong + " not as due");
        if (wrong != 0 || made == 0) {
            System.exit(1);
        }
    }
}
