import java.util.ArrayList;
import java.util.List;

/**
 * Every call of the face with arguments at the edges and far outside, in states at
 * the edges. Each answers or throws as Model says, and never the machine's own
 * exceptions (rule 7 of LANGUAGE.md); when it throws, or only asks, all answers
 * are afterwards as they were before it.
 */
public final class EveryCallTest {
    private static final Check check = new Check();
    private static final String SENTENCE =
            "When a call throws, nothing has changed; of several exceptions it is the first one of the throws clause.";
    private static final int[] PITCHES = Some.row(Integer.MIN_VALUE, -1, 61, Integer.MAX_VALUE);
    private static final int[] LENGTHS = Some.row(Integer.MIN_VALUE, 0, 9, Integer.MAX_VALUE);
    private static final int[] COSTS = Some.row(Integer.MIN_VALUE, -1, 21, Integer.MAX_VALUE);
    private static final int[] SHIFTS = Some.row(Integer.MIN_VALUE, Integer.MIN_VALUE + 60, -61, -60, -2, -1, 0, 1, 2,
            60, 61, Integer.MAX_VALUE - 60, Integer.MAX_VALUE);
    private static final int[] STEPS = Some.row(Integer.MIN_VALUE, -1, 0, 1, 2, 3, 4, 5, Integer.MAX_VALUE);

    private final State state;
    private final Run untouched;
    private final int callsAhead;
    private final List<List<String>> before = new ArrayList<>();
    private int promise;

    private EveryCallTest(State state) {
        this.state = state;
        untouched = made();
        check.holds(state + " is made smoothly", untouched.isSmooth());
        callsAhead = untouched.calls() + 1;
        for (int part = 0; part < Probe.PARTS; part++) {
            before.add(Probe.answers(part, made(), callsAhead));
        }
    }

    public static void main(String[] args) {
        for (State state : State.values()) {
            EveryCallTest test = new EveryCallTest(state);
            test.tuneCalls();
            test.humCalls();
            test.runCalls();
            test.familyCalls();
        }
        check.end("EveryCallTest");
    }

    private Run made() {
        Run run = new Run();
        state.make(run);
        return run;
    }

    private void changes(int number, Call call) {
        tried(number, call, false);
    }

    private void asks(int number, Call call) {
        tried(number, call, true);
    }

    private void tried(int number, Call call, boolean onlyAsks) {
        if (number != promise) {
            promise = number;
            check.says(number, SENTENCE);
        }
        for (int part = 0; part < Probe.PARTS; part++) {
            Run run = made();
            boolean isAsDue = call.isAsDue(run);
            check.holds(state + (isAsDue ? "" : run.story()), isAsDue);
            if (!isAsDue || !run.wasRefused() && !onlyAsks) {
                return;
            }
            List<String> after = Probe.answers(part, run, callsAhead);
            boolean isSame = after.equals(before.get(part));
            String told = isSame ? "" : run.story() + "\nand then " + difference(before.get(part), after);
            check.holds(state + told, isSame);
        }
    }

    private static String difference(List<String> before, List<String> after) {
        for (int i = 0; i < before.size(); i++) {
            if (!before.get(i).equals(after.get(i))) {
                return after.get(i) + ", due is " + before.get(i);
            }
        }
        return "less is asked";
    }

    /** Those at the edges, and one that is retired. */
    private List<Integer> tunes() {
        List<Integer> tunes = numbersAround(untouched.model.tunes.size());
        for (int tune : untouched.model.retired) {
            if (!tunes.contains(tune)) {
                tunes.add(tune);
                break;
            }
        }
        return tunes;
    }

    private List<Integer> notesOf(int tune) {
        return numbersAround(untouched.model.isEntered(tune) ? untouched.model.tunes.get(tune).size() : 0);
    }

    /** Numbers from 0 on, of which there are so many, and those beyond. */
    private static List<Integer> numbersAround(int count) {
        List<Integer> numbers = new ArrayList<>();
        for (int number : Some.row(Integer.MIN_VALUE, -1, 0, count - 2, count - 1, count, 24, Integer.MAX_VALUE)) {
            if (!numbers.contains(number)) {
                numbers.add(number);
            }
        }
        return numbers;
    }

    /** Pitches with lengths: right ones, one wrong, both wrong. */
    private static List<int[]> notes() {
        List<int[]> notes = new ArrayList<>();
        notes.add(Some.row(0, 8));
        notes.add(Some.row(60, 1));
        for (int i = 0; i < PITCHES.length; i++) {
            notes.add(Some.row(PITCHES[i], 2));
            notes.add(Some.row(33, LENGTHS[i]));
            notes.add(Some.row(PITCHES[i], LENGTHS[i]));
        }
        return notes;
    }

    private void tuneCalls() {
        notes().forEach(note -> changes(2, run -> run.add(note[0], note[1])));
        for (int tune : tunes()) {
            notes().forEach(note -> changes(3, run -> run.note(tune, note[0], note[1])));
        }
        for (int tune : tunes()) {
            for (int number : notesOf(tune)) {
                notes().forEach(note -> changes(4, run -> run.correct(tune, number, note[0], note[1])));
            }
        }
        for (int tune : tunes()) {
            for (int by : SHIFTS) {
                changes(5, run -> run.shift(tune, by));
            }
        }
        tunes().forEach(tune -> changes(6, run -> run.retire(tune)));
        asks(7, run -> run.tunes());
        tunes().forEach(tune -> asks(8, run -> run.notes(tune)));
        for (int tune : tunes()) {
            notesOf(tune).forEach(note -> asks(9, run -> run.step(tune, note)));
        }
        for (int one : tunes()) {
            tunes().forEach(other -> asks(10, run -> run.shared(one, other)));
        }
    }

    private void humCalls() {
        for (int pitch : Some.row(Integer.MIN_VALUE, -1, 0, 60, 61, Integer.MAX_VALUE)) {
            changes(11, run -> run.hum(pitch));
        }
        changes(12, run -> run.hush());
        asks(13, run -> run.hummed());
        changes(14, run -> run.setCosts(0, 0, 0));
        changes(14, run -> run.setCosts(20, 20, 20));
        for (int cost : COSTS) {
            changes(14, run -> run.setCosts(cost, 7, 8));
            changes(14, run -> run.setCosts(7, cost, 8));
            changes(14, run -> run.setCosts(7, 8, cost));
            changes(14, run -> run.setCosts(cost, cost, cost));
        }
        tunes().forEach(tune -> asks(15, run -> run.cost(tune)));
        tunes().forEach(tune -> asks(16, run -> run.costByAll(tune)));
        asks(17, run -> run.matches());
        numbersAround(untouched.model.ranked().size()).forEach(rank -> asks(18, run -> run.found(rank)));
        asks(19, run -> run.likeContour());
    }

    private void runCalls() {
        for (int steps : STEPS) {
            asks(20, run -> run.places(steps));
        }
        for (int steps : STEPS) {
            boolean isRun = steps >= 1 && steps <= 4 && steps <= untouched.model.humSteps().size();
            int count = isRun ? untouched.model.places(steps).size() : 0;
            numbersAround(count).forEach(place -> asks(21, run -> run.place(steps, place)));
        }
    }

    private void familyCalls() {
        for (int one : tunes()) {
            tunes().forEach(other -> changes(22, run -> run.link(one, other)));
        }
        for (int one : tunes()) {
            tunes().forEach(other -> changes(23, run -> run.cut(one, other)));
        }
        tunes().forEach(tune -> asks(24, run -> run.family(tune)));
        asks(25, run -> run.families());
    }
}
