import java.util.ArrayList;
import java.util.List;

/**
 * Long runs of calls, right ones and wrong ones, whose answers are those of
 * Model. The calls are drawn by a fixed rule, so that every run is the same.
 */
public final class ModelTest {
    private static final Check check = new Check();
    private static final int RUNS = 1500;
    private static final int MOST_CALLS = 512;
    private static final int[] FAR = {Integer.MIN_VALUE, -61, -60, -1, 0, 60, 61, 100, Integer.MAX_VALUE};
    private static final String INDEX = "IndexOutOfBoundsException";
    private static final String ARGUMENT = "IllegalArgumentException";
    private static final String STATE = "IllegalStateException";

    private final TuneCatalogue x = new TuneCatalogue();
    private final Model model = new Model();
    private final StringBuilder story = new StringBuilder();
    private final int pitches;
    private final int mostTunes;
    private long seed;
    private int calls;

    private ModelTest(int run) {
        seed = 977L * run + 13;
        pitches = run % 3 == 0 ? 61 : run % 3 == 1 ? 4 : 12;
        mostTunes = run % 4 == 0 ? 17 : 2 + run % 4;
    }

    public static void main(String[] args) {
        for (int run = 0; run < RUNS; run++) {
            ModelTest test = new ModelTest(run);
            boolean asDue = true;
            // The last step may take two calls.
            while (asDue && test.calls < MOST_CALLS - 1) {
                asDue = test.call();
            }
            check.holds("run " + run + (asDue ? "" : test.story), asDue);
        }
        check.end("ModelTest");
    }

    private int draw(int bound) {
        seed = seed * 6364136223846793005L + 1442695040888963407L;
        return (int) ((seed >>> 33) % bound);
    }

    /** Mostly from lowest to highest, at times just beyond, at times far off. */
    private int number(int lowest, int highest) {
        int kind = draw(60);
        if (kind == 0) {
            return FAR[draw(FAR.length)];
        }
        return kind == 1 ? lowest - 1 : kind == 2 ? highest + 1 : lowest + draw(highest - lowest + 1);
    }

    private int pitch() {
        return number(0, pitches - 1);
    }

    private int length() {
        return number(1, 8);
    }

    private int tune() {
        return number(0, Math.max(0, model.tunes.size() - 1));
    }

    private int cost() {
        return draw(3) == 0 ? number(0, 20) : number(0, 3);
    }

    private boolean call() {
        int kind = draw(36);
        if (kind < 24) {
            return kind < 12 ? tuneCall(kind) : humCall(kind);
        }
        return kind < 30 ? runCall(kind) : familyCall(kind);
    }

    private boolean tuneCall(int kind) {
        int tune = tune();
        switch (kind) {
            case 0: return model.tunes.size() < mostTunes ? add(pitch(), length()) : note(tune, pitch(), length());
            case 1: case 2: case 3: case 4: case 5: return note(tune, pitch(), length());
            case 6: return correct(tune, number(0, 24), pitch(), length());
            case 7: return shift(tune, draw(2) == 0 ? number(-60, 60) : number(-3, 3));
            case 8: return draw(6) == 0 ? retire(tune) : same("tunes()", model.tunes.size(), x.tunes());
            case 9: return notes(tune);
            case 10: return step(tune, number(0, 24));
            default: return shared(tune, tune());
        }
    }

    private boolean humCall(int kind) {
        switch (kind) {
            case 12: case 13: case 14: case 15: return hum(pitch());
            case 16: return draw(6) == 0 ? hush() : hum(pitch());
            case 17: return same("hummed()", model.hum.size(), x.hummed());
            case 18: return setCosts(cost(), cost(), cost());
            case 19: case 20: return costs(tune());
            case 21: return same("matches()", model.ranked().size(), x.matches());
            case 22: return found(number(0, 4));
            default: return same("likeContour()", model.likeContour(), x.likeContour());
        }
    }

    private boolean runCall(int kind) {
        int steps = number(1, 4);
        return kind < 27 ? places(steps) : place(steps, number(0, 5));
    }

    private boolean familyCall(int kind) {
        int one = tune();
        switch (kind) {
            case 30: case 31: return link(one, tune());
            case 32: case 33: return cut(one, tune());
            case 34: return family(one);
            default: return same("families()", model.families(), x.families());
        }
    }

    private interface Answer {
        long of();
    }

    private boolean same(String call, long due, long answer) {
        return answers(call, due, () -> answer);
    }

    private boolean answers(String call, long due, Answer answer) {
        return isDue(call, String.valueOf(due), answer);
    }

    private boolean refuses(String call, String due, Answer answer) {
        return isDue(call, due, answer);
    }

    private boolean isDue(String call, String due, Answer answer) {
        String got;
        try {
            got = String.valueOf(answer.of());
        } catch (RuntimeException thrown) {
            got = thrown.getClass().getSimpleName();
        }
        calls++;
        story.append('\n').append(call).append(" = ").append(got);
        if (!got.equals(due)) {
            story.append(", due is ").append(due);
        }
        return got.equals(due);
    }

    private static boolean isNote(int pitch, int length) {
        return pitch >= 0 && pitch <= 60 && length >= 1 && length <= 8;
    }

    private boolean add(int pitch, int length) {
        String call = "add(" + pitch + ", " + length + ")";
        Answer answer = () -> x.add(pitch, length);
        if (!isNote(pitch, length)) {
            return refuses(call, ARGUMENT, answer);
        }
        if (model.tunes.size() == 16) {
            return refuses(call, STATE, answer);
        }
        List<Model.Note> tune = new ArrayList<>();
        tune.add(new Model.Note(pitch, length));
        model.tunes.add(tune);
        return answers(call, model.tunes.size() - 1, answer);
    }

    private boolean note(int tune, int pitch, int length) {
        String call = "note(" + tune + ", " + pitch + ", " + length + ")";
        Answer answer = () -> x.note(tune, pitch, length);
        if (!model.isKnown(tune)) {
            return refuses(call, INDEX, answer);
        }
        if (!isNote(pitch, length)) {
            return refuses(call, ARGUMENT, answer);
        }
        List<Model.Note> notes = model.tunes.get(tune);
        if (notes.size() == 24) {
            return refuses(call, STATE, answer);
        }
        notes.add(new Model.Note(pitch, length));
        return answers(call, notes.size(), answer);
    }

    private boolean correct(int tune, int note, int pitch, int length) {
        String call = "correct(" + tune + ", " + note + ", " + pitch + ", " + length + ")";
        Answer answer = () -> x.correct(tune, note, pitch, length);
        if (!model.isKnown(tune) || note < 0 || note >= model.tunes.get(tune).size()) {
            return refuses(call, INDEX, answer);
        }
        if (!isNote(pitch, length)) {
            return refuses(call, ARGUMENT, answer);
        }
        Model.Note before = model.tunes.get(tune).set(note, new Model.Note(pitch, length));
        return answers(call, before.pitch, answer);
    }

    private boolean shift(int tune, int by) {
        String call = "shift(" + tune + ", " + by + ")";
        Answer answer = () -> {
            x.shift(tune, by);
            return 0;
        };
        if (!model.isKnown(tune)) {
            return refuses(call, INDEX, answer);
        }
        if (by < -60 || by > 60) {
            return refuses(call, ARGUMENT, answer);
        }
        for (Model.Note note : model.tunes.get(tune)) {
            if (note.pitch + by < 0 || note.pitch + by > 60) {
                return refuses(call, STATE, answer);
            }
        }
        for (Model.Note note : model.tunes.get(tune)) {
            note.pitch += by;
        }
        return answers(call, 0, answer);
    }

    private boolean retire(int tune) {
        String call = "retire(" + tune + ")";
        if (!model.isKnown(tune)) {
            return refuses(call, INDEX, () -> x.retire(tune));
        }
        model.retired.add(tune);
        return answers(call, model.countKnown(), () -> x.retire(tune));
    }

    private boolean notes(int tune) {
        String call = "notes(" + tune + ")";
        if (!model.isEntered(tune)) {
            return refuses(call, INDEX, () -> x.notes(tune));
        }
        return answers(call, model.tunes.get(tune).size(), () -> x.notes(tune));
    }

    private boolean step(int tune, int note) {
        String call = "step(" + tune + ", " + note + ")";
        if (!model.isEntered(tune) || note < 0 || note >= model.stepsOf(tune).size()) {
            return refuses(call, INDEX, () -> x.step(tune, note));
        }
        return answers(call, model.stepsOf(tune).get(note), () -> x.step(tune, note));
    }

    private boolean shared(int one, int other) {
        String call = "shared(" + one + ", " + other + ")";
        if (!model.isEntered(one) || !model.isEntered(other)) {
            return refuses(call, INDEX, () -> x.shared(one, other));
        }
        return answers(call, model.shared(one, other), () -> x.shared(one, other));
    }

    private boolean hum(int pitch) {
        String call = "hum(" + pitch + ")";
        if (pitch < 0 || pitch > 60) {
            return refuses(call, ARGUMENT, () -> x.hum(pitch));
        }
        if (model.hum.size() == 12) {
            return refuses(call, STATE, () -> x.hum(pitch));
        }
        model.hum.add(pitch);
        return answers(call, model.hum.size(), () -> x.hum(pitch));
    }

    private boolean hush() {
        int had = model.hum.size();
        model.hum.clear();
        return answers("hush()", had, () -> x.hush());
    }

    private static boolean isCost(int cost) {
        return cost >= 0 && cost <= 20;
    }

    private boolean setCosts(int slip, int ornament, int repeat) {
        String call = "setCosts(" + slip + ", " + ornament + ", " + repeat + ")";
        Answer answer = () -> {
            x.setCosts(slip, ornament, repeat);
            return 0;
        };
        if (!isCost(slip) || !isCost(ornament) || !isCost(repeat)) {
            return refuses(call, ARGUMENT, answer);
        }
        model.slip = slip;
        model.ornament = ornament;
        model.repeat = repeat;
        return answers(call, 0, answer);
    }

    private boolean costs(int tune) {
        String call = "cost(" + tune + ")";
        String byAll = "costByAll(" + tune + ")";
        if (!model.isKnown(tune)) {
            return refuses(call, INDEX, () -> x.cost(tune)) && refuses(byAll, INDEX, () -> x.costByAll(tune));
        }
        int due = model.cost(tune);
        boolean asDue = answers(call, due, () -> x.cost(tune));
        return asDue && (model.hum.size() > 8
                ? refuses(byAll, STATE, () -> x.costByAll(tune))
                : answers(byAll, due, () -> x.costByAll(tune)));
    }

    private boolean found(int rank) {
        String call = "found(" + rank + ")";
        List<Integer> ranked = model.ranked();
        if (rank < 0 || rank >= ranked.size()) {
            return refuses(call, INDEX, () -> x.found(rank));
        }
        return answers(call, ranked.get(rank), () -> x.found(rank));
    }

    private boolean places(int steps) {
        String call = "places(" + steps + ")";
        if (steps < 1 || steps > 4) {
            return refuses(call, ARGUMENT, () -> x.places(steps));
        }
        if (steps > model.humSteps().size()) {
            return refuses(call, STATE, () -> x.places(steps));
        }
        return answers(call, model.places(steps).size(), () -> x.places(steps));
    }

    private boolean place(int steps, int place) {
        String call = "place(" + steps + ", " + place + ")";
        Answer answer = () -> x.place(steps, place);
        if (steps < 1 || steps > 4) {
            return refuses(call, ARGUMENT, answer);
        }
        if (steps > model.humSteps().size()) {
            return refuses(call, STATE, answer);
        }
        List<Integer> places = model.places(steps);
        if (place < 0 || place >= places.size()) {
            return refuses(call, INDEX, answer);
        }
        return answers(call, places.get(place), answer);
    }

    private boolean link(int one, int other) {
        String call = "link(" + one + ", " + other + ")";
        Answer answer = () -> x.link(one, other);
        if (!model.isEntered(one) || !model.isEntered(other)) {
            return refuses(call, INDEX, answer);
        }
        if (one == other) {
            return refuses(call, ARGUMENT, answer);
        }
        if (!model.links.add(Model.linkOf(one, other))) {
            return refuses(call, STATE, answer);
        }
        return answers(call, model.families(), answer);
    }

    private boolean cut(int one, int other) {
        String call = "cut(" + one + ", " + other + ")";
        Answer answer = () -> x.cut(one, other);
        if (!model.isEntered(one) || !model.isEntered(other)) {
            return refuses(call, INDEX, answer);
        }
        if (!model.links.remove(Model.linkOf(one, other))) {
            return refuses(call, STATE, answer);
        }
        return answers(call, model.families(), answer);
    }

    private boolean family(int tune) {
        String call = "family(" + tune + ")";
        if (!model.isEntered(tune)) {
            return refuses(call, INDEX, () -> x.family(tune));
        }
        return answers(call, model.lowest()[tune], () -> x.family(tune));
    }
}
