import java.util.concurrent.Callable;

/** Counts answers that are as due, and tells of those that are not. */
final class Check {
    private int passed;
    private int failed;

    void same(String what, long answer, long due) {
        count(what, answer == due, "answered " + answer + ", due is " + due);
    }

    void holds(String what, boolean asDue) {
        count(what, asDue, "does not hold");
    }

    /** The very class is due: a subclass would be what the machine itself throws. */
    void throwsJust(String what, Class<?> due, Callable<?> call) {
        String answer;
        boolean asDue = false;
        try {
            answer = "answered " + call.call();
        } catch (Exception thrown) {
            asDue = thrown.getClass() == due;
            answer = "threw " + thrown;
        }
        count(what, asDue, answer + ", due is " + due.getSimpleName());
    }

    void end(String test) {
        System.out.println(test + ": " + passed + " answers as due, " + failed + " not");
        if (failed != 0 || passed == 0) {
            System.exit(1);
        }
    }

    private void count(String what, boolean asDue, String otherwise) {
        if (asDue) {
            passed++;
            return;
        }
        failed++;
        if (failed <= 20) {
            System.out.println(what + " " + otherwise);
        }
    }
}
