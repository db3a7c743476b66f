import java.util.List;

/** Draws calls by a fixed rule, so that each run of a test makes the same ones; wrong ones are among them. */
final class Draws {
    private static final int[] FAR = {Integer.MIN_VALUE, -61, -60, -1, 0, 60, 61, 100, Integer.MAX_VALUE};

    private final Model model;
    private final int pitches;
    private final int mostTunes;
    private long seed;
    private int hummedTune;
    private int lastTune;
    private int lastNote;

    /** Of pitches from 0 on, and of tunes, there are so many: few of them make more alike. */
    Draws(Model model, int number, int pitches, int mostTunes) {
        this.model = model;
        this.pitches = pitches;
        this.mostTunes = mostTunes;
        seed = 977L * number + 13;
    }

    int draw(int bound) {
        seed = seed * 6364136223846793005L + 1442695040888963407L;
        return (int) ((seed >>> 33) % bound);
    }

    Call change() {
        int kind = draw(24);
        return kind < 13 ? changeOfTunes(kind) : kind < 20 ? changeOfHum(kind) : changeOfLinks(kind);
    }

    private Call changeOfTunes(int kind) {
        int tune = tune();
        int pitch = pitch();
        int length = number(1, 8);
        if (kind < 2 && model.tunes.size() < mostTunes) {
            return run -> run.add(pitch, length);
        }
        if (kind == 8 || kind == 9) {
            int note = noteOf(tune);
            return run -> run.correct(tune, note, pitch, length);
        }
        if (kind == 10 || kind == 11) {
            int by = draw(2) == 0 ? number(-60, 60) : number(-3, 3);
            return run -> run.shift(tune, by);
        }
        if (kind == 12 && draw(5) == 0) {
            return run -> run.retire(tune);
        }
        return run -> run.note(tune, pitch, length);
    }

    private Call changeOfHum(int kind) {
        if (kind == 18 && draw(2) == 0) {
            return run -> run.hush();
        }
        if (kind == 19) {
            int slip = cost();
            int ornament = cost();
            int repeat = cost();
            return run -> run.setCosts(slip, ornament, repeat);
        }
        int pitch = pitchOfHum();
        return run -> run.hum(pitch);
    }

    private Call changeOfLinks(int kind) {
        int one = tune();
        int other = anyTune();
        if (kind < 22) {
            return run -> run.link(one, other);
        }
        return run -> run.cut(one, other);
    }

    Call ask() {
        int kind = draw(18);
        return kind < 4 ? askOfTunes(kind) : kind < 13 ? askOfHum(kind) : askOfRunsAndFamilies(kind);
    }

    private Call askOfTunes(int kind) {
        int one = tune();
        int other = anyTune();
        int note = noteOf(one);
        switch (kind) {
            case 0: return run -> run.tunes();
            case 1: return run -> run.notes(one);
            case 2: return run -> run.step(one, note);
            default: return run -> run.shared(one, other);
        }
    }

    private Call askOfHum(int kind) {
        int tune = tune();
        int rank = number(0, Math.max(0, model.tunes.size() - 1));
        switch (kind) {
            case 4: return run -> run.hummed();
            case 5: case 6: return run -> run.cost(tune);
            case 7: case 8: return run -> run.costByAll(tune);
            case 9: return run -> run.matches();
            case 10: case 11: return run -> run.found(rank);
            default: return run -> run.likeContour();
        }
    }

    private Call askOfRunsAndFamilies(int kind) {
        int steps = draw(2) == 0 ? number(1, 4) : 1;
        int place = number(0, 3);
        int tune = tune();
        switch (kind) {
            case 13: return run -> run.places(steps);
            case 14: case 15: return run -> run.place(steps, place);
            case 16: return run -> run.family(tune);
            default: return run -> run.families();
        }
    }

    /** Mostly from lowest to highest, at times just beyond, at times far off. */
    private int number(int lowest, int highest) {
        int kind = draw(60);
        if (kind == 0) {
            return FAR[draw(FAR.length)];
        }
        return kind == 1 ? lowest - 1 : kind == 2 ? highest + 1 : lowest + draw(highest - lowest + 1);
    }

    private int anyTune() {
        return number(0, Math.max(0, model.tunes.size() - 1));
    }

    /** Often the one before, so that what is changed is asked for, too. */
    private int tune() {
        if (draw(2) == 0) {
            lastTune = anyTune();
        }
        return lastTune;
    }

    private int noteOf(int tune) {
        if (draw(2) == 0) {
            lastNote = number(0, model.isEntered(tune) ? model.tunes.get(tune).size() - 1 : 23);
        }
        return lastNote;
    }

    private int pitch() {
        return number(0, pitches - 1);
    }

    private int cost() {
        return draw(3) == 0 ? number(0, 20) : number(0, 3);
    }

    /** Mostly as one of the tunes goes on, which is not the same one for ever. */
    private int pitchOfHum() {
        if (draw(10) == 0) {
            hummedTune = draw(16);
        }
        int next = model.hum.size();
        boolean isThere = next > 0 && model.isEntered(hummedTune) && next < model.tunes.get(hummedTune).size();
        if (!isThere || draw(4) == 0) {
            return pitch();
        }
        List<Model.Note> notes = model.tunes.get(hummedTune);
        return model.hum.get(next - 1) + notes.get(next).pitch - notes.get(next - 1).pitch;
    }
}
