import java.util.ArrayList;
import java.util.List;
import java.util.concurrent.Callable;

/**
 * All that an object answers, put down as texts. Some of it is laid open only by
 * calls that change the object, so that each part needs an object of its own.
 */
final class Probe {
    static final int PARTS = 5;
    private static final int MOST_CALLS = 512;

    private final TuneCatalogue x;
    private final Model model;
    private final List<String> answers = new ArrayList<>();
    private int calls;

    private Probe(Run run, int callsAhead) {
        x = run.x;
        model = run.model;
        calls = callsAhead;
    }

    /** The same calls ahead are counted for each object, so that each is asked the same. */
    static List<String> answers(int part, Run run, int callsAhead) {
        Probe probe = new Probe(run, callsAhead);
        switch (part) {
            case 0: probe.asks(); break;
            case 1: probe.laysOpenCosts(); break;
            case 2: probe.laysOpenNotes(); break;
            case 3: probe.laysOpenLinks(); break;
            default: probe.laysOpenRoom(); break;
        }
        return probe.answers;
    }

    /** What an object answers behind its 512th call is free. */
    private void put(String call, Callable<?> asked) {
        if (calls >= MOST_CALLS) {
            return;
        }
        calls++;
        try {
            answers.add(call + " = " + asked.call());
        } catch (Exception thrown) {
            answers.add(call + " = " + Check.told(thrown));
        }
    }

    private int tunes() {
        return model.tunes.size();
    }

    private int notes(int tune) {
        return model.tunes.get(tune).size();
    }

    private void asks() {
        put("tunes", () -> x.tunes());
        put("hummed", () -> x.hummed());
        put("matches", () -> x.matches());
        put("likeContour", () -> x.likeContour());
        put("families", () -> x.families());
        for (int i = 0; i <= tunes(); i++) {
            int tune = i;
            put("notes " + tune, () -> x.notes(tune));
            put("cost " + tune, () -> x.cost(tune));
            put("costByAll " + tune, () -> x.costByAll(tune));
            put("family " + tune, () -> x.family(tune));
            put("shared " + tune, () -> x.shared(0, tune));
        }
        for (int i : new int[] {0, 1, 2, tunes() - 1, tunes()}) {
            put("found " + i, () -> x.found(i));
        }
        for (int i = 1; i <= 4; i++) {
            int steps = i;
            put("places " + steps, () -> x.places(steps));
            for (int j = 0; j < 6; j++) {
                int place = j;
                put("place " + steps + " " + place, () -> x.place(steps, place));
            }
        }
        asksSteps();
    }

    private void asksSteps() {
        for (int i = 0; i < tunes(); i++) {
            int tune = i;
            for (int j = 0; j < notes(tune); j++) {
                int note = j;
                put("step " + tune + " " + note, () -> x.step(tune, note));
            }
        }
    }

    /** Of a tune whose pitches are made 10, 20 and 40, whose costs tell each of the three apart. */
    private void laysOpenCosts() {
        put("add", () -> x.add(10, 1));
        int tune = Math.min(tunes(), 15);
        put("first", () -> x.correct(tune, 0, 10, 1));
        int had = tunes() == 16 ? notes(15) : 1;
        if (had == 1) {
            put("second", () -> x.note(tune, 20, 1));
        } else {
            put("second", () -> x.correct(tune, 1, 20, 1));
        }
        costOf(tune, 10, 21);
        costOf(tune, 10, 10, 20);
        costOf(tune, 10, 50, 20);
        put("third", () -> had <= 2 ? x.note(tune, 40, 1) : x.correct(tune, 2, 40, 1));
        costOf(tune, 10, 40);
    }

    private void costOf(int tune, int... pitches) {
        put("hush", () -> x.hush());
        for (int pitch : pitches) {
            put("hum", () -> x.hum(pitch));
        }
        put("cost", () -> x.cost(tune));
    }

    private void laysOpenNotes() {
        put("setCosts", () -> Some.priced(x, 20, 1, 20));
        List<int[]> pitches = new ArrayList<>();
        for (int tune = 0; tune < tunes(); tune++) {
            pitches.add(pitchesAndOneMore(tune));
        }
        for (int tune = 0; tune < tunes(); tune++) {
            if (pitches.get(tune).length > 2) {
                costOf(tune, everyOther(pitches.get(tune), 2));
                costOf(tune, everyOther(pitches.get(tune), 1));
            }
        }
        for (int i = 0; i < tunes(); i++) {
            int tune = i;
            for (int j = 0; j < notes(tune); j++) {
                int note = j;
                put("pitch " + tune + " " + note, () -> x.correct(tune, note, 30, 1));
            }
        }
    }

    /** A note is added, since the length of the last one tells nothing before. */
    private int[] pitchesAndOneMore(int tune) {
        boolean hasRoom = notes(tune) < 24;
        int[] pitches = new int[notes(tune) + (hasRoom ? 1 : 0)];
        for (int note = 0; note < notes(tune); note++) {
            pitches[note] = model.tunes.get(tune).get(note).pitch;
        }
        if (hasRoom) {
            int more = (pitches[notes(tune) - 1] + 31) % 61;
            pitches[notes(tune)] = more;
            put("one more", () -> x.note(tune, more, 1));
        }
        return pitches;
    }

    /** The first pitch and every other one from a later one on: to lay them leaves out the rest. */
    private static int[] everyOther(int[] pitches, int from) {
        int[] some = new int[Math.min(12, 1 + (pitches.length - from + 1) / 2)];
        for (int i = 0; i < some.length; i++) {
            some[i] = pitches[i == 0 ? 0 : from + 2 * (i - 1)];
        }
        return some;
    }

    private void laysOpenLinks() {
        for (int i = tunes() - 1; i >= 0; i--) {
            int one = i;
            for (int j = 0; j <= i; j++) {
                int other = j;
                put("cut " + one + " " + other, () -> x.cut(one, other));
            }
        }
    }

    private void laysOpenRoom() {
        for (int i = 0; i <= 12; i++) {
            put("hum", () -> x.hum(30));
        }
        put("hush", () -> x.hush());
        for (int i = 0; i <= 16 - tunes(); i++) {
            put("add", () -> x.add(30, 1));
        }
        for (int i = 0; i < tunes(); i++) {
            int tune = i;
            put("note " + tune, () -> x.note(tune, 30, 1));
        }
        for (int i = 0; i < Math.min(2, tunes()); i++) {
            int tune = i;
            for (int j = notes(tune) + 1; j <= 24; j++) {
                put("note " + tune, () -> x.note(tune, 30, 1));
            }
        }
        for (int i = 0; i <= 16; i++) {
            int tune = i;
            put("retire " + tune, () -> x.retire(tune));
        }
    }
}
