import java.util.ArrayList;
import java.util.List;

/**
 * A catalogue and its model, called side by side: each call tells whether the
 * answer was due, an exception of the class's own throw statement included.
 */
final class Run {
    private static final String INDEX = "IndexOutOfBoundsException";
    private static final String ARGUMENT = "IllegalArgumentException";
    private static final String STATE = "IllegalStateException";

    final TuneCatalogue x = new TuneCatalogue();
    final Model model = new Model();
    private final StringBuilder story = new StringBuilder();
    private int calls;
    private String lastCall = "";
    private String lastAnswer = "";
    private boolean wasRefused;
    private boolean isSmooth = true;

    int calls() {
        return calls;
    }

    /** Whether each call so far was answered, none refused, and as was due. */
    boolean isSmooth() {
        return isSmooth;
    }

    /** The last call with its arguments. */
    String lastCall() {
        return lastCall;
    }

    String lastName() {
        return lastCall.replaceAll("\\(.*", "");
    }

    /** What the last call answered, or the name of what it threw. */
    String lastAnswer() {
        return lastAnswer;
    }

    /** Whether the document wanted an exception of the last call. */
    boolean wasRefused() {
        return wasRefused;
    }

    String story() {
        return story.toString();
    }

    private interface Answer {
        long of();
    }

    private boolean answers(String call, long due, Answer answer) {
        wasRefused = false;
        return isDue(call, String.valueOf(due), answer);
    }

    private boolean refuses(String call, String due, Answer answer) {
        wasRefused = true;
        return isDue(call, due, answer);
    }

    private boolean isDue(String call, String due, Answer answer) {
        String got;
        try {
            got = String.valueOf(answer.of());
        } catch (RuntimeException thrown) {
            got = Check.told(thrown);
        }
        calls++;
        lastCall = call;
        lastAnswer = got;
        story.append('\n').append(call).append(" = ").append(got);
        boolean isDue = got.equals(due);
        if (!isDue) {
            story.append(", due is ").append(due);
        }
        isSmooth = isSmooth && isDue && !wasRefused;
        return isDue;
    }

    private static boolean isNote(int pitch, int length) {
        return pitch >= 0 && pitch <= 60 && length >= 1 && length <= 8;
    }

    boolean add(int pitch, int length) {
        String call = "add(" + pitch + ", " + length + ")";
        Answer answer = () -> x.add(pitch, length);
        if (!isNote(pitch, length)) {
            return refuses(call, ARGUMENT, answer);
        }
        if (model.tunes.size() == 16) {
            return refuses(call, STATE, answer);
        }
        List<Model.Note> tune = new ArrayList<>();
        tune.add(new Model.Note(pitch, length));
        model.tunes.add(tune);
        return answers(call, model.tunes.size() - 1, answer);
    }

    boolean note(int tune, int pitch, int length) {
        String call = "note(" + tune + ", " + pitch + ", " + length + ")";
        Answer answer = () -> x.note(tune, pitch, length);
        if (!model.isKnown(tune)) {
            return refuses(call, INDEX, answer);
        }
        if (!isNote(pitch, length)) {
            return refuses(call, ARGUMENT, answer);
        }
        List<Model.Note> notes = model.tunes.get(tune);
        if (notes.size() == 24) {
            return refuses(call, STATE, answer);
        }
        notes.add(new Model.Note(pitch, length));
        return answers(call, notes.size(), answer);
    }

    boolean correct(int tune, int note, int pitch, int length) {
        String call = "correct(" + tune + ", " + note + ", " + pitch + ", " + length + ")";
        Answer answer = () -> x.correct(tune, note, pitch, length);
        if (!model.isKnown(tune) || note < 0 || note >= model.tunes.get(tune).size()) {
            return refuses(call, INDEX, answer);
        }
        if (!isNote(pitch, length)) {
            return refuses(call, ARGUMENT, answer);
        }
        Model.Note before = model.tunes.get(tune).set(note, new Model.Note(pitch, length));
        return answers(call, before.pitch, answer);
    }

    boolean shift(int tune, int by) {
        String call = "shift(" + tune + ", " + by + ")";
        Answer answer = () -> {
            x.shift(tune, by);
            return 0;
        };
        if (!model.isKnown(tune)) {
            return refuses(call, INDEX, answer);
        }
        if (by < -60 || by > 60) {
            return refuses(call, ARGUMENT, answer);
        }
        for (Model.Note note : model.tunes.get(tune)) {
            if (note.pitch + by < 0 || note.pitch + by > 60) {
                return refuses(call, STATE, answer);
            }
        }
        for (Model.Note note : model.tunes.get(tune)) {
            note.pitch += by;
        }
        return answers(call, 0, answer);
    }

    boolean retire(int tune) {
        String call = "retire(" + tune + ")";
        if (!model.isKnown(tune)) {
            return refuses(call, INDEX, () -> x.retire(tune));
        }
        model.retired.add(tune);
        return answers(call, model.countKnown(), () -> x.retire(tune));
    }

    boolean tunes() {
        return answers("tunes()", model.tunes.size(), () -> x.tunes());
    }

    boolean notes(int tune) {
        String call = "notes(" + tune + ")";
        if (!model.isEntered(tune)) {
            return refuses(call, INDEX, () -> x.notes(tune));
        }
        return answers(call, model.tunes.get(tune).size(), () -> x.notes(tune));
    }

    boolean step(int tune, int note) {
        String call = "step(" + tune + ", " + note + ")";
        if (!model.isEntered(tune) || note < 0 || note >= model.stepsOf(tune).size()) {
            return refuses(call, INDEX, () -> x.step(tune, note));
        }
        return answers(call, model.stepsOf(tune).get(note), () -> x.step(tune, note));
    }

    boolean shared(int one, int other) {
        String call = "shared(" + one + ", " + other + ")";
        if (!model.isEntered(one) || !model.isEntered(other)) {
            return refuses(call, INDEX, () -> x.shared(one, other));
        }
        return answers(call, model.shared(one, other), () -> x.shared(one, other));
    }

    boolean hum(int pitch) {
        String call = "hum(" + pitch + ")";
        if (pitch < 0 || pitch > 60) {
            return refuses(call, ARGUMENT, () -> x.hum(pitch));
        }
        if (model.hum.size() == 12) {
            return refuses(call, STATE, () -> x.hum(pitch));
        }
        model.hum.add(pitch);
        return answers(call, model.hum.size(), () -> x.hum(pitch));
    }

    boolean hush() {
        int had = model.hum.size();
        model.hum.clear();
        return answers("hush()", had, () -> x.hush());
    }

    boolean hummed() {
        return answers("hummed()", model.hum.size(), () -> x.hummed());
    }

    private static boolean isCost(int cost) {
        return cost >= 0 && cost <= 20;
    }

    boolean setCosts(int slip, int ornament, int repeat) {
        String call = "setCosts(" + slip + ", " + ornament + ", " + repeat + ")";
        Answer answer = () -> {
            x.setCosts(slip, ornament, repeat);
            return 0;
        };
        if (!isCost(slip) || !isCost(ornament) || !isCost(repeat)) {
            return refuses(call, ARGUMENT, answer);
        }
        model.slip = slip;
        model.ornament = ornament;
        model.repeat = repeat;
        return answers(call, 0, answer);
    }

    boolean cost(int tune) {
        String call = "cost(" + tune + ")";
        if (!model.isKnown(tune)) {
            return refuses(call, INDEX, () -> x.cost(tune));
        }
        return answers(call, model.cost(tune), () -> x.cost(tune));
    }

    boolean costByAll(int tune) {
        String call = "costByAll(" + tune + ")";
        if (!model.isKnown(tune)) {
            return refuses(call, INDEX, () -> x.costByAll(tune));
        }
        if (model.hum.size() > 8) {
            return refuses(call, STATE, () -> x.costByAll(tune));
        }
        return answers(call, model.cost(tune), () -> x.costByAll(tune));
    }

    boolean matches() {
        return answers("matches()", model.ranked().size(), () -> x.matches());
    }

    boolean found(int rank) {
        String call = "found(" + rank + ")";
        List<Integer> ranked = model.ranked();
        if (rank < 0 || rank >= ranked.size()) {
            return refuses(call, INDEX, () -> x.found(rank));
        }
        return answers(call, ranked.get(rank), () -> x.found(rank));
    }

    boolean likeContour() {
        return answers("likeContour()", model.likeContour(), () -> x.likeContour());
    }

    boolean places(int steps) {
        String call = "places(" + steps + ")";
        if (steps < 1 || steps > 4) {
            return refuses(call, ARGUMENT, () -> x.places(steps));
        }
        if (steps > model.humSteps().size()) {
            return refuses(call, STATE, () -> x.places(steps));
        }
        return answers(call, model.places(steps).size(), () -> x.places(steps));
    }

    boolean place(int steps, int place) {
        String call = "place(" + steps + ", " + place + ")";
        Answer answer = () -> x.place(steps, place);
        if (steps < 1 || steps > 4) {
            return refuses(call, ARGUMENT, answer);
        }
        if (steps > model.humSteps().size()) {
            return refuses(call, STATE, answer);
        }
        List<Integer> places = model.places(steps);
        if (place < 0 || place >= places.size()) {
            return refuses(call, INDEX, answer);
        }
        return answers(call, places.get(place), answer);
    }

    boolean link(int one, int other) {
        String call = "link(" + one + ", " + other + ")";
        Answer answer = () -> x.link(one, other);
        if (!model.isEntered(one) || !model.isEntered(other)) {
            return refuses(call, INDEX, answer);
        }
        if (one == other) {
            return refuses(call, ARGUMENT, answer);
        }
        if (!model.links.add(Model.linkOf(one, other))) {
            return refuses(call, STATE, answer);
        }
        return answers(call, model.families(), answer);
    }

    boolean cut(int one, int other) {
        String call = "cut(" + one + ", " + other + ")";
        Answer answer = () -> x.cut(one, other);
        if (!model.isEntered(one) || !model.isEntered(other)) {
            return refuses(call, INDEX, answer);
        }
        if (!model.links.remove(Model.linkOf(one, other))) {
            return refuses(call, STATE, answer);
        }
        return answers(call, model.families(), answer);
    }

    boolean family(int tune) {
        String call = "family(" + tune + ")";
        if (!model.isEntered(tune)) {
            return refuses(call, INDEX, () -> x.family(tune));
        }
        return answers(call, model.lowest()[tune], () -> x.family(tune));
    }

    boolean families() {
        return answers("families()", model.families(), () -> x.families());
    }
}
