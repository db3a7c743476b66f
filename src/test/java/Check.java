import java.util.HashSet;
import java.util.Set;
import java.util.concurrent.Callable;

/** Counts answers that are as due, and tells of those that are not. */
final class Check {
    private final Set<String> sentences = new HashSet<>();
    private String sentence = "";
    private int passed;
    private int failed;

    /** What follows holds this sentence of the document, which a promise by its number rests on. */
    void says(int promise, String words) {
        sentence = "promise " + promise + ", \"" + words + "\": ";
        sentences.add(sentence);
    }

    void same(String what, long answer, long due) {
        count(what, answer == due, "answered " + answer + ", due is " + due);
    }

    void holds(String what, boolean asDue) {
        count(what, asDue, "does not hold");
    }

    /** The very class is due, and a throw statement of the program: the machine must not throw. */
    void throwsJust(String what, Class<?> due, Callable<?> call) {
        String answer;
        boolean asDue = false;
        try {
            answer = "answered " + call.call();
        } catch (Exception thrown) {
            asDue = told(thrown).equals(due.getSimpleName());
            answer = "threw " + told(thrown);
        }
        count(what, asDue, answer + ", due is " + due.getSimpleName());
    }

    /** The class of what was thrown, and whether it was thrown elsewhere than in the program. */
    static String told(Exception thrown) {
        StackTraceElement[] trace = thrown.getStackTrace();
        boolean isOfProgram = trace.length > 0 && trace[0].getClassName().startsWith("TuneCatalogue");
        return thrown.getClass().getSimpleName() + (isOfProgram ? "" : " from elsewhere");
    }

    void end(String test) {
        String told = sentences.isEmpty() ? "" : sentences.size() + " sentences, ";
        System.out.println(test + ": " + told + passed + " answers as due, " + failed + " not");
        if (failed != 0 || passed == 0) {
            System.exit(1);
        }
    }

    private void count(String what, boolean asDue, String otherwise) {
        if (asDue) {
            passed++;
            return;
        }
        failed++;
        if (failed <= 20) {
            System.out.println(sentence + what + " " + otherwise);
        }
    }
}
