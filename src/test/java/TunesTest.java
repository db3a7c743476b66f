/** Promises 1 to 10: tunes, notes, steps, and runs in common. */
public final class TunesTest {
    private static final Check check = new Check();

    public static void main(String[] args) {
        newObject();
        add();
        addWrongly();
        note();
        noteWrongly();
        correct();
        correctWrongly();
        shift();
        shiftWrongly();
        retire();
        tunesAndNotes();
        step();
        shared();
        check.end("TunesTest");
    }

    private static void newObject() {
        TuneCatalogue x = new TuneCatalogue();
        check.same("1: tunes", x.tunes(), 0);
        check.same("1: families", x.families(), 0);
        check.same("1: hummed", x.hummed(), 0);
        check.same("1: matches", x.matches(), 0);
        check.same("1: likeContour", x.likeContour(), 0);
        check.throwsJust("1: notes", Some.INDEX, () -> x.notes(0));
        TuneCatalogue other = Some.of(Some.row(1, 2));
        check.same("1: objects share nothing", x.tunes() + 10 * other.tunes(), 10);
    }

    private static void add() {
        TuneCatalogue x = new TuneCatalogue();
        check.same("2: lowest", x.add(0, 1), 0);
        check.same("2: highest", x.add(60, 8), 1);
        check.same("2: one note", x.notes(1), 1);
        for (int tune = 2; tune < 16; tune++) {
            check.same("2: number", x.add(30, 4), tune);
        }
        check.throwsJust("2: 17th", Some.STATE, () -> x.add(30, 4));
        check.throwsJust("2: 17th, wrong pitch first", Some.ARGUMENT, () -> x.add(61, 4));
        check.same("2: tunes", x.tunes(), 16);
        x.retire(3);
        check.throwsJust("2: retired ones count", Some.STATE, () -> x.add(30, 4));
    }

    private static void addWrongly() {
        TuneCatalogue x = new TuneCatalogue();
        for (int pitch : Some.row(-1, 61, Integer.MIN_VALUE, Integer.MAX_VALUE)) {
            check.throwsJust("2: pitch " + pitch, Some.ARGUMENT, () -> x.add(pitch, 1));
        }
        for (int length : Some.row(0, 9, -1, Integer.MIN_VALUE, Integer.MAX_VALUE)) {
            check.throwsJust("2: length " + length, Some.ARGUMENT, () -> x.add(0, length));
        }
        check.same("2: nothing has changed", x.tunes(), 0);
    }

    private static void note() {
        TuneCatalogue x = Some.of(Some.row(30), Some.row(40));
        check.same("3: lowest", x.note(0, 0, 1), 2);
        check.same("3: highest", x.note(0, 60, 8), 3);
        check.same("3: step down", x.step(0, 0), -30);
        check.same("3: step up", x.step(0, 1), 60);
        check.same("3: the other tune", x.notes(1), 1);
        for (int notes = 4; notes <= 24; notes++) {
            check.same("3: notes", x.note(0, 30, 1), notes);
        }
        check.throwsJust("3: 25th", Some.STATE, () -> x.note(0, 30, 1));
        check.throwsJust("3: 25th, wrong length first", Some.ARGUMENT, () -> x.note(0, 30, 9));
        check.same("3: still 24", x.notes(0), 24);
        check.same("3: the last step", x.step(0, 22), 0);
    }

    private static void noteWrongly() {
        TuneCatalogue x = Some.of(Some.row(30), Some.row(30));
        x.retire(1);
        for (int tune : Some.row(-1, 1, 2, 16, Integer.MIN_VALUE, Integer.MAX_VALUE)) {
            check.throwsJust("3: tune " + tune, Some.INDEX, () -> x.note(tune, 61, 9));
        }
        for (int pitch : Some.row(-1, 61)) {
            check.throwsJust("3: pitch " + pitch, Some.ARGUMENT, () -> x.note(0, pitch, 1));
        }
        for (int length : Some.row(0, 9)) {
            check.throwsJust("3: length " + length, Some.ARGUMENT, () -> x.note(0, 0, length));
        }
        check.same("3: nothing has changed", x.notes(0) + 10 * x.notes(1), 11);
    }

    private static void correct() {
        TuneCatalogue x = Some.of(Some.row(30, 32, 34), Some.row(30, 32, 34));
        check.same("4: pitch before", x.correct(0, 1, 60, 8), 32);
        check.same("4: corrected pitch", x.correct(0, 1, 0, 1), 60);
        check.same("4: first note", x.correct(0, 0, 31, 1), 30);
        check.same("4: last note", x.correct(0, 2, 33, 1), 34);
        check.same("4: step", x.step(0, 0) + 100 * x.step(0, 1), -31 + 3300);
        check.same("4: the other tune", x.step(1, 0) + 100 * x.step(1, 1), 202);
        check.same("4: notes", x.notes(0), 3);
        TuneCatalogue y = Some.of(Some.row(10, 50, 12));
        Some.hum(y, 10, 12);
        check.same("4: length 1 left out", y.cost(0), 3);
        y.correct(0, 1, 50, 7);
        check.same("4: length 7 left out", y.cost(0), 21);
    }

    private static void correctWrongly() {
        TuneCatalogue x = Some.of(Some.row(30, 32), Some.row(30, 32));
        x.retire(1);
        for (int tune : Some.row(-1, 1, 2, Integer.MIN_VALUE, Integer.MAX_VALUE)) {
            check.throwsJust("4: tune " + tune, Some.INDEX, () -> x.correct(tune, 0, 61, 9));
        }
        for (int note : Some.row(-1, 2, 24, Integer.MIN_VALUE, Integer.MAX_VALUE)) {
            check.throwsJust("4: note " + note, Some.INDEX, () -> x.correct(0, note, 61, 9));
        }
        for (int pitch : Some.row(-1, 61)) {
            check.throwsJust("4: pitch " + pitch, Some.ARGUMENT, () -> x.correct(0, 0, pitch, 1));
        }
        for (int length : Some.row(0, 9)) {
            check.throwsJust("4: length " + length, Some.ARGUMENT, () -> x.correct(0, 0, 0, length));
        }
        check.same("4: nothing has changed", x.step(0, 0), 2);
    }

    private static void shift() {
        TuneCatalogue x = Some.of(Some.row(0, 0), Some.row(5, 9));
        x.shift(0, 60);
        check.same("5: up by 60", x.correct(0, 1, 60, 1), 60);
        x.shift(0, -60);
        check.same("5: down by 60", x.correct(0, 0, 0, 1), 0);
        x.shift(1, -5);
        check.same("5: first note", x.correct(1, 0, 0, 1), 0);
        check.same("5: last note", x.correct(1, 1, 4, 1), 4);
        x.shift(1, 0);
        check.same("5: steps stay", x.step(1, 0), 4);
    }

    private static void shiftWrongly() {
        TuneCatalogue x = Some.of(Some.row(1, 59, 30), Some.row(30));
        x.retire(1);
        for (int tune : Some.row(-1, 1, 2, Integer.MIN_VALUE, Integer.MAX_VALUE)) {
            check.throwsJust("5: tune " + tune, Some.INDEX, () -> Some.shifted(x, tune, 61));
        }
        for (int by : Some.row(-61, 61, Integer.MIN_VALUE, Integer.MAX_VALUE)) {
            check.throwsJust("5: by " + by, Some.ARGUMENT, () -> Some.shifted(x, 0, by));
        }
        for (int by : Some.row(-60, -2, 2, 60)) {
            check.throwsJust("5: out of the pitches by " + by, Some.STATE, () -> Some.shifted(x, 0, by));
        }
        check.same("5: nothing has changed", x.correct(0, 0, 1, 1) + 100 * x.correct(0, 2, 30, 1), 3001);
        x.shift(0, 1);
        check.throwsJust("5: at the end", Some.STATE, () -> Some.shifted(x, 0, 1));
        x.shift(0, -2);
        check.same("5: at the beginning", x.correct(0, 0, 0, 1), 0);
    }

    private static void retire() {
        TuneCatalogue x = Some.of(Some.row(10), Some.row(20, 21), Some.row(30));
        check.same("6: two are left", x.retire(1), 2);
        for (int tune : Some.row(-1, 1, 3, Integer.MIN_VALUE, Integer.MAX_VALUE)) {
            check.throwsJust("6: tune " + tune, Some.INDEX, () -> x.retire(tune));
        }
        check.throwsJust("6: cost", Some.INDEX, () -> x.cost(1));
        check.throwsJust("6: costByAll", Some.INDEX, () -> x.costByAll(1));
        check.same("6: likeContour", x.likeContour(), 5);
        check.same("6: one is left", x.retire(0), 1);
        check.same("6: a new one is known", x.add(5, 5), 3);
        check.same("6: none but the new one", x.retire(2), 1);
        check.same("6: none", x.retire(3), 0);
        check.same("6: tunes", x.tunes(), 4);
    }

    private static void tunesAndNotes() {
        TuneCatalogue x = Some.of(Some.row(10), Some.row(20, 21, 22));
        check.same("7: tunes", x.tunes(), 2);
        check.same("8: notes", x.notes(0) + 10 * x.notes(1), 31);
        x.retire(1);
        check.same("7: retired ones, too", x.tunes(), 2);
        check.same("8: retired ones, too", x.notes(1), 3);
        for (int tune : Some.row(-1, 2, 16, Integer.MIN_VALUE, Integer.MAX_VALUE)) {
            check.throwsJust("8: tune " + tune, Some.INDEX, () -> x.notes(tune));
        }
    }

    private static void step() {
        TuneCatalogue x = Some.of(Some.row(0, 60, 0, 0), Some.row(20));
        check.same("9: up", x.step(0, 0), 60);
        check.same("9: down", x.step(0, 1), -60);
        check.same("9: stays", x.step(0, 2), 0);
        x.retire(0);
        check.same("9: a retired one", x.step(0, 1), -60);
        for (int note : Some.row(-1, 3, 4, 24, Integer.MIN_VALUE, Integer.MAX_VALUE)) {
            check.throwsJust("9: note " + note, Some.INDEX, () -> x.step(0, note));
        }
        check.throwsJust("9: a single note", Some.INDEX, () -> x.step(1, 0));
        for (int tune : Some.row(-1, 2, Integer.MIN_VALUE, Integer.MAX_VALUE)) {
            check.throwsJust("9: tune " + tune, Some.INDEX, () -> x.step(tune, 0));
        }
    }

    private static void shared() {
        TuneCatalogue x = Some.of(Some.row(10, 12, 14, 11, 11, 20), Some.row(50, 40, 42, 39, 39),
                Some.row(3), Some.row(10, 12, 20, 22, 24));
        check.same("10: in the midst", x.shared(0, 1), 3);
        check.same("10: the other way", x.shared(1, 0), 3);
        check.same("10: two steps, of which the run is not torn", x.shared(0, 3), 2);
        check.same("10: no step", x.shared(0, 2), 0);
        check.same("10: the same", x.shared(0, 0), 5);
        check.same("10: the same of one note", x.shared(2, 2), 0);
        x.retire(0);
        check.same("10: a retired one", x.shared(0, 1), 3);
        check.same("10: a retired other one", x.shared(1, 0), 3);
        check.same("10: the same retired one", x.shared(0, 0), 5);
        for (int tune : Some.row(-1, 4, Integer.MIN_VALUE, Integer.MAX_VALUE)) {
            check.throwsJust("10: one " + tune, Some.INDEX, () -> x.shared(tune, 0));
            check.throwsJust("10: other " + tune, Some.INDEX, () -> x.shared(0, tune));
        }
        TuneCatalogue z = Some.of(Some.row(2, 9), Some.row(20, 22, 29), Some.row(22, 29, 20));
        check.same("10: there is no step to the first note", z.shared(0, 1) + 10 * z.shared(1, 0), 11);
        check.same("10: there is no step from the last note", z.shared(0, 2) + 10 * z.shared(2, 0), 11);
        TuneCatalogue y = new TuneCatalogue();
        for (int tune = 0; tune < 2; tune++) {
            y.add(tune, 1);
            for (int note = 1; note < 24; note++) {
                y.note(tune, tune + note % 5, 1);
            }
        }
        check.same("10: all of 24 notes", y.shared(0, 1), 23);
    }
}
