/**
 * Long runs of calls, right ones and wrong ones, whose answers are those of
 * Model. The calls are drawn by a fixed rule, so that every run is the same.
 */
public final class ModelTest {
    private static final Check check = new Check();
    private static final int RUNS = 1500;
    private static final int MOST_CALLS = 512;
    private static final int[] FAR = {Integer.MIN_VALUE, -61, -60, -1, 0, 60, 61, 100, Integer.MAX_VALUE};

    private final Run run = new Run();
    private final int pitches;
    private final int mostTunes;
    private long seed;

    private ModelTest(int number) {
        seed = 977L * number + 13;
        pitches = number % 3 == 0 ? 61 : number % 3 == 1 ? 4 : 12;
        mostTunes = number % 4 == 0 ? 17 : 2 + number % 4;
    }

    public static void main(String[] args) {
        for (int number = 0; number < RUNS; number++) {
            ModelTest test = new ModelTest(number);
            boolean asDue = true;
            // The last step may take two calls.
            while (asDue && test.run.calls() < MOST_CALLS - 1) {
                asDue = test.call();
            }
            check.holds("run " + number + (asDue ? "" : test.run.story()), asDue);
        }
        check.end("ModelTest");
    }

    private int draw(int bound) {
        seed = seed * 6364136223846793005L + 1442695040888963407L;
        return (int) ((seed >>> 33) % bound);
    }

    /** Mostly from lowest to highest, at times just beyond, at times far off. */
    private int number(int lowest, int highest) {
        int kind = draw(60);
        if (kind == 0) {
            return FAR[draw(FAR.length)];
        }
        return kind == 1 ? lowest - 1 : kind == 2 ? highest + 1 : lowest + draw(highest - lowest + 1);
    }

    private int pitch() {
        return number(0, pitches - 1);
    }

    private int length() {
        return number(1, 8);
    }

    private int tune() {
        return number(0, Math.max(0, run.model.tunes.size() - 1));
    }

    private int cost() {
        return draw(3) == 0 ? number(0, 20) : number(0, 3);
    }

    private boolean call() {
        int kind = draw(36);
        if (kind < 24) {
            return kind < 12 ? tuneCall(kind) : humCall(kind);
        }
        return kind < 30 ? runCall(kind) : familyCall(kind);
    }

    private boolean tuneCall(int kind) {
        int tune = tune();
        switch (kind) {
            case 0:
                boolean mayAdd = run.model.tunes.size() < mostTunes;
                return mayAdd ? run.add(pitch(), length()) : run.note(tune, pitch(), length());
            case 1: case 2: case 3: case 4: case 5: return run.note(tune, pitch(), length());
            case 6: return run.correct(tune, number(0, 24), pitch(), length());
            case 7: return run.shift(tune, draw(2) == 0 ? number(-60, 60) : number(-3, 3));
            case 8: return draw(6) == 0 ? run.retire(tune) : run.tunes();
            case 9: return run.notes(tune);
            case 10: return run.step(tune, number(0, 24));
            default: return run.shared(tune, tune());
        }
    }

    private boolean humCall(int kind) {
        switch (kind) {
            case 12: case 13: case 14: case 15: return run.hum(pitch());
            case 16: return draw(6) == 0 ? run.hush() : run.hum(pitch());
            case 17: return run.hummed();
            case 18: return run.setCosts(cost(), cost(), cost());
            case 19: case 20: return costs(tune());
            case 21: return run.matches();
            case 22: return run.found(number(0, 4));
            default: return run.likeContour();
        }
    }

    private boolean runCall(int kind) {
        int steps = number(1, 4);
        return kind < 27 ? run.places(steps) : run.place(steps, number(0, 5));
    }

    private boolean familyCall(int kind) {
        int one = tune();
        switch (kind) {
            case 30: case 31: return run.link(one, tune());
            case 32: case 33: return run.cut(one, tune());
            case 34: return run.family(one);
            default: return run.families();
        }
    }

    private boolean costs(int tune) {
        return run.cost(tune) && run.costByAll(tune);
    }
}
