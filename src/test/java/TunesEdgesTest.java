/** Promises 1 to 10, and the terms that they rest on: a test for each sentence that names a boundary. */
public final class TunesEdgesTest {
    private static final Check check = new Check();

    public static void main(String[] args) {
        newObject();
        add();
        note();
        correct();
        shift();
        retire();
        tunesAndNotes();
        step();
        shared();
        check.end("TunesEdgesTest");
    }

    /** Each call that needs a known tune refuses this one. */
    private static void isNotKnown(TuneCatalogue x, int tune) {
        check.throwsJust("note of " + tune, Some.INDEX, () -> x.note(tune, 30, 1));
        check.throwsJust("correct of " + tune, Some.INDEX, () -> x.correct(tune, 0, 30, 1));
        check.throwsJust("shift of " + tune, Some.INDEX, () -> Some.shifted(x, tune, 0));
        check.throwsJust("retire of " + tune, Some.INDEX, () -> x.retire(tune));
        check.throwsJust("cost of " + tune, Some.INDEX, () -> x.cost(tune));
        check.throwsJust("costByAll of " + tune, Some.INDEX, () -> x.costByAll(tune));
    }

    /** Each call that needs a tune that was ever added refuses this one. */
    private static void neverWas(TuneCatalogue x, int tune) {
        check.throwsJust("notes of " + tune, Some.INDEX, () -> x.notes(tune));
        check.throwsJust("step of " + tune, Some.INDEX, () -> x.step(tune, 0));
        check.throwsJust("shared of " + tune, Some.INDEX, () -> x.shared(tune, tune));
        check.throwsJust("link of " + tune, Some.INDEX, () -> x.link(tune, tune));
        check.throwsJust("cut of " + tune, Some.INDEX, () -> x.cut(tune, tune));
        check.throwsJust("family of " + tune, Some.INDEX, () -> x.family(tune));
    }

    // ---- promise 1

    private static void newObject() {
        beginsWithoutTunes();
        humIsEmptyAtFirst();
        objectWithoutTunesHummed();
        objectsAreApart();
        fiveHundredTwelveCalls();
    }

    private static void beginsWithoutTunes() {
        check.says(1, "Begins without tunes.");
        TuneCatalogue x = new TuneCatalogue();
        check.same("tunes", x.tunes(), 0);
        check.same("families", x.families(), 0);
        check.same("matches", x.matches(), 0);
        check.same("likeContour", x.likeContour(), 0);
        for (int tune : Some.row(0, 1, 15, -1, 16, Integer.MIN_VALUE, Integer.MAX_VALUE)) {
            isNotKnown(x, tune);
            neverWas(x, tune);
        }
        check.same("tunes afterwards", x.tunes(), 0);
        check.same("the first one's number", x.add(30, 1), 0);
    }

    private static void humIsEmptyAtFirst() {
        check.says(1, "The hum is [..] empty at first");
        TuneCatalogue x = new TuneCatalogue();
        check.same("hummed", x.hummed(), 0);
        check.same("hush", x.hush(), 0);
        check.throwsJust("places", Some.STATE, () -> x.places(1));
        check.throwsJust("place", Some.STATE, () -> x.place(1, 0));
        check.same("the first one hummed", x.hum(0), 1);
    }

    private static void objectWithoutTunesHummed() {
        check.says(1, "Begins without tunes; a hum finds none then");
        TuneCatalogue x = new TuneCatalogue();
        Some.hum(x, 9, 9, 9, 9, 9, 9, 9, 9, 9, 9, 9, 9);
        check.same("matches", x.matches(), 0);
        check.throwsJust("found(0)", Some.INDEX, () -> x.found(0));
        check.same("likeContour", x.likeContour(), 0);
        for (int steps = 1; steps <= 4; steps++) {
            int asked = steps;
            check.same("places(" + steps + ")", x.places(steps), 0);
            check.throwsJust("place(" + steps + ", 0)", Some.INDEX, () -> x.place(asked, 0));
        }
    }

    private static void objectsAreApart() {
        check.says(1, "A new object begins without tunes, whatever was done with others");
        TuneCatalogue other = Some.of(Some.row(30, 40), Some.row(30, 50));
        Some.hum(other, 30, 30, 50);
        other.setCosts(20, 20, 20);
        other.link(0, 1);
        other.retire(0);
        TuneCatalogue x = Some.of(Some.row(30, 50), Some.row(30));
        check.same("its hum", x.hummed(), 0);
        check.same("its families", x.families(), 2);
        Some.hum(x, 30, 30, 50);
        check.same("its costs", x.cost(0), 1);
        check.same("the other's hum", other.hummed(), 3);
        check.same("the other's families", other.families(), 1);
        check.same("the other's costs", other.cost(1), 20);
    }

    private static void fiveHundredTwelveCalls() {
        check.says(1, "An object is used for at most 512 calls after it has been made");
        TuneCatalogue x = Some.of(Some.row(0));
        for (int call = 2; call <= 510; call += 3) {
            x.shift(0, 60);
            check.throwsJust("up once more", Some.STATE, () -> Some.shifted(x, 0, 1));
            x.shift(0, call < 509 ? -60 : -59);
        }
        check.same("call 512", x.correct(0, 0, 30, 1), 1);
    }

    // ---- promise 2

    private static void add() {
        pitchOfAdd();
        lengthOfAdd();
        addsOneNote();
        numbersInOrder();
        sixteenEver();
        addThrowsTheFirst();
    }

    private static void pitchOfAdd() {
        check.says(2, "pitch: 0 to 60");
        TuneCatalogue x = new TuneCatalogue();
        check.same("add(0, 1)", x.add(0, 1), 0);
        check.same("add(60, 1)", x.add(60, 1), 1);
        for (int pitch : Some.beyond(0, 60)) {
            check.throwsJust("add(" + pitch + ", 1)", Some.ARGUMENT, () -> x.add(pitch, 1));
        }
        check.same("tunes", x.tunes(), 2);
        check.same("the lowest one stands", x.correct(0, 0, 1, 1), 0);
        check.same("the highest one stands", x.correct(1, 0, 1, 1), 60);
    }

    private static void lengthOfAdd() {
        check.says(2, "length: 1 to 8");
        TuneCatalogue x = new TuneCatalogue();
        check.same("add(30, 1)", x.add(30, 1), 0);
        check.same("add(30, 8)", x.add(30, 8), 1);
        for (int length : Some.beyond(1, 8)) {
            check.throwsJust("add(30, " + length + ")", Some.ARGUMENT, () -> x.add(30, length));
        }
        check.throwsJust("both out of range", Some.ARGUMENT, () -> x.add(61, 0));
        check.same("tunes", x.tunes(), 2);
    }

    private static void addsOneNote() {
        check.says(2, "Adds a tune of one note.");
        TuneCatalogue x = new TuneCatalogue();
        x.add(60, 8);
        check.same("notes", x.notes(0), 1);
        check.throwsJust("step", Some.INDEX, () -> x.step(0, 0));
        check.same("shared", x.shared(0, 0), 0);
        check.same("likeContour", x.likeContour(), 1);
        check.same("families", x.families(), 1);
        check.same("family", x.family(0), 0);
        check.same("cost with an empty hum", x.cost(0), -1);
        x.hum(0);
        check.same("cost of one pitch", x.cost(0), 0);
        x.hum(0);
        check.same("cost of two pitches", x.cost(0), -1);
        check.same("places", x.places(1), 0);
    }

    private static void numbersInOrder() {
        check.says(2, "Tunes are numbered from 0 as they are added");
        TuneCatalogue x = new TuneCatalogue();
        for (int tune = 0; tune < 16; tune++) {
            int asked = tune;
            check.throwsJust("not there yet: " + tune, Some.INDEX, () -> x.notes(asked));
            check.same("number", x.add(tune, 1), tune);
            if (tune % 5 == 4) {
                x.retire(tune);
            } else {
                check.same("its pitch", x.correct(tune, 0, 0, 1), tune);
            }
        }
    }

    private static void sixteenEver() {
        check.says(2, "at most 16 ever");
        TuneCatalogue x = Some.ofTunes(15);
        check.same("the sixteenth", x.add(60, 8), 15);
        check.throwsJust("the seventeenth", Some.STATE, () -> x.add(60, 8));
        check.same("tunes", x.tunes(), 16);
        neverWas(x, 16);
        for (int tune = 0; tune < 16; tune++) {
            check.same("known then", x.retire(tune), 15 - tune);
            check.throwsJust("the seventeenth, when one is retired", Some.STATE, () -> x.add(60, 8));
        }
        check.same("tunes afterwards", x.tunes(), 16);
    }

    private static void addThrowsTheFirst() {
        check.says(2, "of several exceptions it is the first one of the throws clause");
        TuneCatalogue x = Some.ofTunes(16);
        check.throwsJust("17th, pitch", Some.ARGUMENT, () -> x.add(-1, 1));
        check.throwsJust("17th, pitch above", Some.ARGUMENT, () -> x.add(61, 1));
        check.throwsJust("17th, length", Some.ARGUMENT, () -> x.add(0, 0));
        check.throwsJust("17th, length above", Some.ARGUMENT, () -> x.add(0, 9));
        check.throwsJust("17th alone", Some.STATE, () -> x.add(0, 1));
    }

    // ---- promise 3

    private static void note() {
        pitchOfNote();
        lengthOfNote();
        twentyFourNotes();
        noteOfUnknownTune();
        noteThrowsTheFirst();
    }

    private static void pitchOfNote() {
        check.says(3, "pitch: 0 to 60");
        TuneCatalogue x = Some.ofTunes(1);
        check.same("note(0, 0, 1)", x.note(0, 0, 1), 2);
        check.same("note(0, 60, 1)", x.note(0, 60, 1), 3);
        for (int pitch : Some.beyond(0, 60)) {
            check.throwsJust("note(0, " + pitch + ", 1)", Some.ARGUMENT, () -> x.note(0, pitch, 1));
        }
        check.same("notes", x.notes(0), 3);
        check.same("to the lowest one", x.step(0, 0), -30);
        check.same("to the highest one", x.step(0, 1), 60);
    }

    private static void lengthOfNote() {
        check.says(3, "length: 1 to 8");
        TuneCatalogue x = Some.of(Some.row(10), Some.row(10));
        check.same("note(0, 60, 1)", x.note(0, 60, 1), 2);
        check.same("note(1, 60, 8)", x.note(1, 60, 8), 2);
        for (int length : Some.beyond(1, 8)) {
            check.throwsJust("note(0, 60, " + length + ")", Some.ARGUMENT, () -> x.note(0, 60, length));
        }
        check.throwsJust("both out of range", Some.ARGUMENT, () -> x.note(0, -1, 9));
        check.same("notes", x.notes(0), 2);
        x.note(0, 12, 1);
        x.note(1, 12, 1);
        Some.hum(x, 10, 12);
        check.same("the shortest one left out", x.cost(0), 3);
        check.same("the longest one left out", x.cost(1), 24);
    }

    private static void twentyFourNotes() {
        check.says(3, "A tune has notes, numbered from 0, at most 24");
        TuneCatalogue x = Some.ofTunes(2);
        for (int notes = 2; notes <= 24; notes++) {
            check.same("how many it has then", x.note(0, 60, 8), notes);
        }
        check.throwsJust("the 25th", Some.STATE, () -> x.note(0, 60, 8));
        check.same("notes", x.notes(0), 24);
        check.same("the other tune has room", x.note(1, 60, 8), 2);
        check.same("the last note", x.correct(0, 23, 0, 1), 60);
        check.throwsJust("there is no 25th", Some.INDEX, () -> x.correct(0, 24, 0, 1));
        check.throwsJust("the 25th, once more", Some.STATE, () -> x.note(0, 60, 8));
    }

    private static void noteOfUnknownTune() {
        check.says(3, "Throws IndexOutOfBoundsException if no such tune is known");
        TuneCatalogue x = Some.ofTunes(3);
        x.retire(0);
        x.retire(2);
        for (int tune : Some.beyond(1, 1)) {
            check.throwsJust("note of " + tune, Some.INDEX, () -> x.note(tune, 30, 1));
        }
        check.same("the known one", x.note(1, 30, 1), 2);
        check.same("the retired ones", x.notes(0) + 10 * x.notes(2), 11);
    }

    private static void noteThrowsTheFirst() {
        check.says(3, "of several exceptions it is the first one of the throws clause");
        TuneCatalogue x = Some.of(Some.rising(0, 1, 24), Some.rising(0, 1, 24));
        x.retire(1);
        check.throwsJust("no tune, pitch, length", Some.INDEX, () -> x.note(2, 61, 9));
        check.throwsJust("retired, full", Some.INDEX, () -> x.note(1, 30, 1));
        check.throwsJust("retired, full, pitch", Some.INDEX, () -> x.note(1, -1, 1));
        check.throwsJust("full, pitch", Some.ARGUMENT, () -> x.note(0, 61, 1));
        check.throwsJust("full, length", Some.ARGUMENT, () -> x.note(0, 30, 0));
        check.throwsJust("full", Some.STATE, () -> x.note(0, 30, 1));
    }

    // ---- promise 4

    private static void correct() {
        pitchOfCorrect();
        lengthOfCorrect();
        whichNote();
        correctOfUnknownTune();
        correctThrowsTheFirst();
    }

    private static void pitchOfCorrect() {
        check.says(4, "pitch: 0 to 60; returns its pitch before");
        TuneCatalogue x = Some.of(Some.row(30, 30));
        check.same("to the lowest", x.correct(0, 0, 0, 1), 30);
        check.same("to the highest", x.correct(0, 0, 60, 1), 0);
        check.same("to the same", x.correct(0, 0, 60, 1), 60);
        for (int pitch : Some.beyond(0, 60)) {
            check.throwsJust("correct to " + pitch, Some.ARGUMENT, () -> x.correct(0, 0, pitch, 1));
        }
        check.same("it stands", x.correct(0, 0, 30, 1), 60);
        check.same("the other note", x.correct(0, 1, 30, 1), 30);
        check.same("notes", x.notes(0), 2);
    }

    private static void lengthOfCorrect() {
        check.says(4, "length: 1 to 8");
        TuneCatalogue x = Some.of(Some.row(10, 60, 12));
        Some.hum(x, 10, 12);
        x.correct(0, 1, 60, 8);
        check.same("the longest one left out", x.cost(0), 24);
        for (int length : Some.beyond(1, 8)) {
            check.throwsJust("correct to length " + length, Some.ARGUMENT, () -> x.correct(0, 1, 60, length));
            check.throwsJust("both out of range", Some.ARGUMENT, () -> x.correct(0, 1, 61, length));
        }
        check.same("it stands", x.cost(0), 24);
        check.throwsJust("a right length, but a wrong pitch", Some.ARGUMENT, () -> x.correct(0, 1, 61, 2));
        check.same("its length stands, too", x.cost(0), 24);
        x.correct(0, 1, 60, 1);
        check.same("the shortest one left out", x.cost(0), 3);
    }

    private static void whichNote() {
        check.says(4, "Throws IndexOutOfBoundsException if it has no such note");
        TuneCatalogue x = Some.of(Some.row(30), Some.rising(0, 1, 24), Some.rising(10, 1, 3));
        int[] notes = Some.row(1, 24, 3);
        for (int tune = 0; tune < notes.length; tune++) {
            int asked = tune;
            for (int note : Some.beyond(0, notes[tune] - 1)) {
                check.throwsJust("note " + note, Some.INDEX, () -> x.correct(asked, note, 60, 1));
            }
        }
        check.same("the only note", x.correct(0, 0, 60, 1), 30);
        check.same("the first of 24", x.correct(1, 0, 60, 1), 0);
        check.same("the last of 24", x.correct(1, 23, 60, 1), 23);
        check.same("the first of 3", x.correct(2, 0, 60, 1), 10);
        check.same("the last of 3", x.correct(2, 2, 60, 1), 12);
        check.throwsJust("the one behind the last", Some.INDEX, () -> x.correct(2, 3, 60, 1));
        x.note(2, 59, 1);
        check.same("there is one now", x.correct(2, 3, 60, 1), 59);
    }

    private static void correctOfUnknownTune() {
        check.says(4, "Throws IndexOutOfBoundsException if no such tune is known");
        TuneCatalogue x = Some.ofTunes(3);
        x.retire(0);
        x.retire(2);
        for (int tune : Some.beyond(1, 1)) {
            check.throwsJust("correct of " + tune, Some.INDEX, () -> x.correct(tune, 0, 30, 1));
        }
        check.same("the known one", x.correct(1, 0, 31, 1), 30);
    }

    private static void correctThrowsTheFirst() {
        check.says(4, "of several exceptions it is the first one of the throws clause");
        TuneCatalogue x = Some.ofTunes(2);
        x.retire(1);
        check.throwsJust("no tune, pitch, length", Some.INDEX, () -> x.correct(-1, 0, 61, 9));
        check.throwsJust("retired, length", Some.INDEX, () -> x.correct(1, 0, 30, 9));
        check.throwsJust("no note, pitch", Some.INDEX, () -> x.correct(0, 1, -1, 1));
        check.throwsJust("no note, length", Some.INDEX, () -> x.correct(0, -1, 30, 0));
        check.throwsJust("pitch", Some.ARGUMENT, () -> x.correct(0, 0, -1, 1));
    }

    // ---- promise 5

    private static void shift() {
        shiftBy();
        shiftOutOfPitches();
        shiftOneNoteOut();
        shiftAllNotes();
        shiftsDoNotMatter();
        shiftOfUnknownTune();
        shiftThrowsTheFirst();
    }

    private static void shiftBy() {
        check.says(5, "by: -60 to 60");
        TuneCatalogue x = Some.of(Some.row(0));
        x.shift(0, 60);
        check.same("up by 60", x.correct(0, 0, 60, 1), 60);
        x.shift(0, -60);
        check.same("down by 60", x.correct(0, 0, 30, 1), 0);
        for (int pitch : Some.row(0, 30, 60)) {
            x.correct(0, 0, pitch, 1);
            for (int by : Some.beyond(-60, 60)) {
                check.throwsJust("by " + by, Some.ARGUMENT, () -> Some.shifted(x, 0, by));
            }
            check.same("it stands", x.correct(0, 0, pitch, 1), pitch);
        }
    }

    private static void shiftOutOfPitches() {
        check.says(5, "Throws IllegalStateException if a pitch would not be from 0 to 60");
        TuneCatalogue x = Some.of(Some.row(30));
        for (int pitch = 0; pitch <= 60; pitch++) {
            x.correct(0, 0, pitch, 1);
            int up = 60 - pitch;
            int down = -pitch;
            if (up < 60) {
                check.throwsJust(pitch + " up too far", Some.STATE, () -> Some.shifted(x, 0, up + 1));
            }
            if (down > -60) {
                check.throwsJust(pitch + " down too far", Some.STATE, () -> Some.shifted(x, 0, down - 1));
            }
            x.shift(0, up);
            check.same(pitch + " up to 60", x.correct(0, 0, pitch, 1), 60);
            x.shift(0, down);
            check.same(pitch + " down to 0", x.correct(0, 0, pitch, 1), 0);
        }
    }

    private static void shiftOneNoteOut() {
        check.says(5, "if a pitch would not be from 0 to 60, nothing has changed");
        for (int out = 0; out < 24; out++) {
            isNotShifted(out, 0, -1);
            isNotShifted(out, 60, 1);
            isNotShifted(out, 1, -29);
            isNotShifted(out, 59, 30);
        }
    }

    /** All notes stand, those ahead of the one that would be out of range, too. */
    private static void isNotShifted(int out, int pitch, int by) {
        TuneCatalogue x = Some.of(Some.same(30, 24));
        x.correct(0, out, pitch, 1);
        check.throwsJust("note " + out + " by " + by, Some.STATE, () -> Some.shifted(x, 0, by));
        for (int note = 0; note < 24; note++) {
            check.same("note " + note, x.correct(0, note, 30, 1), note == out ? pitch : 30);
        }
    }

    private static void shiftAllNotes() {
        check.says(5, "Shifts all notes of a tune.");
        TuneCatalogue x = Some.of(Some.rising(0, 1, 24), Some.rising(0, 1, 24), Some.row(10, 60, 12));
        x.correct(2, 1, 50, 8);
        x.shift(0, 37);
        x.shift(2, -10);
        Some.hum(x, 10, 12);
        check.same("lengths stay", x.cost(2), 24);
        for (int note = 0; note < 24; note++) {
            check.same("note " + note, x.correct(0, note, 30, 1), note + 37);
            check.same("not of the other tune, note " + note, x.correct(1, note, 30, 1), note);
        }
        x.shift(0, 0);
        check.same("by 0", x.correct(0, 0, 30, 1), 30);
    }

    private static void shiftsDoNotMatter() {
        check.says(5, "tunes are told by steps between notes, so that shifts do not matter");
        TuneCatalogue x = Some.of(Some.row(0, 12, 5), Some.row(30, 42, 35, 36));
        Some.hum(x, 20, 33, 26);
        for (int by : Some.row(0, 48, -48, 1, 47, -48)) {
            x.shift(0, by);
            check.same("step", x.step(0, 0) + 100 * x.step(0, 1), 12 - 700);
            check.same("shared", x.shared(0, 1), 2);
            check.same("cost", x.cost(0), 2);
            check.same("costByAll", x.costByAll(0), 2);
            check.same("found", x.found(0), 0);
            check.same("likeContour", x.likeContour(), 3);
            check.same("place", x.place(1, 0), 1);
        }
        check.throwsJust("down once more", Some.STATE, () -> Some.shifted(x, 0, -1));
    }

    private static void shiftOfUnknownTune() {
        check.says(5, "Throws IndexOutOfBoundsException if no such tune is known");
        TuneCatalogue x = Some.ofTunes(3);
        x.retire(0);
        x.retire(2);
        for (int tune : Some.beyond(1, 1)) {
            check.throwsJust("shift of " + tune, Some.INDEX, () -> Some.shifted(x, tune, 0));
        }
        x.shift(1, 1);
        check.same("the known one", x.correct(1, 0, 31, 1), 31);
    }

    private static void shiftThrowsTheFirst() {
        check.says(5, "of several exceptions it is the first one of the throws clause");
        TuneCatalogue x = Some.ofTunes(2);
        x.retire(1);
        check.throwsJust("no tune, by", Some.INDEX, () -> Some.shifted(x, 2, 61));
        check.throwsJust("retired, by", Some.INDEX, () -> Some.shifted(x, 1, -61));
        check.throwsJust("retired, out of the pitches", Some.INDEX, () -> Some.shifted(x, 1, 60));
        check.throwsJust("by, out of the pitches", Some.ARGUMENT, () -> Some.shifted(x, 0, 61));
        check.throwsJust("by, out of the pitches below", Some.ARGUMENT, () -> Some.shifted(x, 0, -61));
        check.throwsJust("out of the pitches", Some.STATE, () -> Some.shifted(x, 0, 60));
    }

    // ---- promise 6

    private static void retire() {
        knownThen();
        knownUntilRetired();
        retireOfUnknownTune();
    }

    private static void knownThen() {
        check.says(6, "Returns how many tunes are known then.");
        TuneCatalogue x = Some.ofTunes(1);
        check.same("the only one", x.retire(0), 0);
        TuneCatalogue full = Some.ofTunes(16);
        int[] order = Some.row(15, 0, 7, 8, 1, 14, 2, 13, 3, 12, 4, 11, 5, 10, 6, 9);
        for (int i = 0; i < order.length; i++) {
            check.same("of 16", full.retire(order[i]), 15 - i);
        }
    }

    private static void knownUntilRetired() {
        check.says(6, "Tunes are known until they are retired.");
        TuneCatalogue x = Some.of(Some.row(10, 12), Some.row(20, 22, 24), Some.row(30, 32));
        x.link(0, 1);
        Some.hum(x, 5, 7);
        x.retire(1);
        isNotKnown(x, 1);
        check.same("matches", x.matches(), 2);
        check.same("found", x.found(0) + 10 * x.found(1), 20);
        check.same("likeContour", x.likeContour(), 5);
        check.same("places", x.places(1), 2);
        check.same("place", x.place(1, 1), 200);
        check.same("tunes", x.tunes(), 3);
        check.same("notes", x.notes(1), 3);
        check.same("step", x.step(1, 1), 2);
        check.same("shared", x.shared(1, 0) + 10 * x.shared(1, 1), 21);
        check.same("family", x.family(1), 0);
        check.same("families", x.families(), 2);
        check.same("link", x.link(2, 1), 1);
        check.same("cut", x.cut(0, 1), 2);
    }

    private static void retireOfUnknownTune() {
        check.says(6, "Throws IndexOutOfBoundsException if no such tune is known");
        TuneCatalogue x = Some.ofTunes(3);
        x.retire(0);
        x.retire(2);
        for (int tune : Some.beyond(1, 1)) {
            check.throwsJust("retire of " + tune, Some.INDEX, () -> x.retire(tune));
        }
        check.same("the known one", x.retire(1), 0);
        check.throwsJust("once more", Some.INDEX, () -> x.retire(1));
    }

    // ---- promises 7 and 8

    private static void tunesAndNotes() {
        howManyTunes();
        howManyNotes();
        notesOfNoTune();
    }

    private static void howManyTunes() {
        check.says(7, "Returns how many tunes were added.");
        TuneCatalogue x = new TuneCatalogue();
        check.same("none", x.tunes(), 0);
        for (int tunes = 1; tunes <= 16; tunes++) {
            check.throwsJust("a wrong one does not count", Some.ARGUMENT, () -> x.add(61, 1));
            x.add(30, 1);
            check.same("added", x.tunes(), tunes);
            x.retire(tunes - 1);
            check.same("retired ones count", x.tunes(), tunes);
        }
        check.throwsJust("the seventeenth does not count", Some.STATE, () -> x.add(30, 1));
        check.same("full", x.tunes(), 16);
    }

    private static void howManyNotes() {
        check.says(8, "Returns how many notes a tune has, retired ones, too.");
        TuneCatalogue x = Some.of(Some.row(30), Some.rising(0, 1, 24), Some.row(30, 31));
        for (int retired = 0; retired <= 3; retired++) {
            check.same("one note", x.notes(0), 1);
            check.same("24 notes", x.notes(1), 24);
            check.same("two notes", x.notes(2), 2);
            if (retired < 3) {
                x.retire(retired);
            }
        }
    }

    private static void notesOfNoTune() {
        check.says(8, "Throws IndexOutOfBoundsException if there never was such a tune");
        for (int tunes : Some.row(1, 2, 15, 16)) {
            TuneCatalogue x = Some.ofTunes(tunes);
            check.same("the first one", x.notes(0), 1);
            check.same("the last one", x.notes(tunes - 1), 1);
            for (int tune : Some.beyond(0, tunes - 1)) {
                check.throwsJust("notes of " + tune, Some.INDEX, () -> x.notes(tune));
            }
        }
    }

    // ---- promise 9

    private static void step() {
        widestSteps();
        stepOfNoNote();
        stepOfNoTune();
    }

    private static void widestSteps() {
        check.says(9, "The step from a note to a later one is the pitch of that one less its own.");
        TuneCatalogue x = Some.of(Some.row(0, 60, 0, 0, 1, 0, 60, 60));
        int[] due = Some.row(60, -60, 0, 1, -1, 60, 0);
        for (int note = 0; note < due.length; note++) {
            check.same("note " + note, x.step(0, note), due[note]);
        }
        x.correct(0, 1, 1, 1);
        check.same("to a corrected one", x.step(0, 0), 1);
        check.same("from a corrected one", x.step(0, 1), -1);
    }

    private static void stepOfNoNote() {
        check.says(9, "Throws IndexOutOfBoundsException if it has no such note with a next one");
        TuneCatalogue x = Some.of(Some.row(30), Some.row(30, 31), Some.rising(0, 2, 24));
        for (int tune = 0; tune < 3; tune++) {
            int asked = tune;
            int notes = x.notes(tune);
            for (int note : Some.beyond(0, notes - 2)) {
                check.throwsJust("note " + note + " of " + notes, Some.INDEX, () -> x.step(asked, note));
            }
        }
        check.same("the only step", x.step(1, 0), 1);
        check.same("the first of 23", x.step(2, 0), 2);
        check.same("the last of 23", x.step(2, 22), 2);
        x.note(0, 33, 1);
        check.same("there is a next one now", x.step(0, 0), 3);
        check.throwsJust("behind it there is none", Some.INDEX, () -> x.step(0, 1));
    }

    private static void stepOfNoTune() {
        check.says(9, "Throws IndexOutOfBoundsException if there never was such a tune");
        TuneCatalogue x = Some.of(Some.row(1, 2), Some.row(1, 3));
        for (int tune : Some.beyond(0, 1)) {
            check.throwsJust("step of " + tune, Some.INDEX, () -> x.step(tune, 0));
        }
        x.retire(0);
        x.retire(1);
        check.same("of retired ones", x.step(0, 0) + 10 * x.step(1, 0), 21);
    }

    // ---- promise 10

    private static void shared() {
        tunesOfOneNote();
        atTheEnds();
        longestOfSeveral();
        allOfItsOwn();
        sharedOfNoTune();
    }

    private static void tunesOfOneNote() {
        check.says(10, "A run is a row of steps from each note to the next one; one note has none");
        TuneCatalogue x = Some.of(Some.row(30), Some.row(30), Some.row(30, 30));
        check.same("of one note each", x.shared(0, 1), 0);
        check.same("with one of two", x.shared(0, 2), 0);
        check.same("the other way", x.shared(2, 0), 0);
        x.note(0, 30, 1);
        check.same("a step in common", x.shared(0, 2), 1);
    }

    private static void atTheEnds() {
        check.says(10, "the longest run that two tunes have in common, at the first and last notes, too");
        TuneCatalogue x = Some.of(Some.row(0, 1, 3, 6, 10), Some.row(50, 51, 53, 0), Some.row(0, 50, 53, 57),
                Some.row(20, 22, 25), Some.row(60, 50, 40, 30));
        check.same("the first ones of both", x.shared(0, 1), 2);
        check.same("the last ones of both", x.shared(0, 2), 2);
        check.same("the whole of the one", x.shared(0, 3), 2);
        check.same("the last of the one, the first of the other", x.shared(1, 3), 1);
        check.same("none", x.shared(0, 4), 0);
        for (int one = 0; one < 5; one++) {
            for (int other = 0; other < 5; other++) {
                check.same("either way", x.shared(one, other), x.shared(other, one));
            }
        }
    }

    private static void longestOfSeveral() {
        check.says(10, "Returns the length of the longest run");
        TuneCatalogue x = Some.of(Some.row(0, 1, 2, 40, 41, 42, 43, 10, 11), Some.row(20, 21, 22, 23, 0, 60));
        check.same("three of ones behind each other", x.shared(0, 1), 3);
        TuneCatalogue y = Some.of(Some.row(0, 60), Some.row(60, 0), Some.same(7, 24), Some.same(9, 23));
        check.same("60 up and 60 down", y.shared(0, 1), 0);
        check.same("22 of 23", y.shared(2, 3), 22);
        check.same("22 of 23, the other way", y.shared(3, 2), 22);
    }

    private static void allOfItsOwn() {
        check.says(10, "the same tune has all of its own");
        TuneCatalogue x = Some.of(Some.row(30), Some.row(30, 0), Some.rising(0, 2, 24), Some.rising(10, 2, 24));
        check.same("of one note", x.shared(0, 0), 0);
        check.same("of two notes", x.shared(1, 1), 1);
        check.same("of 24 notes", x.shared(2, 2), 23);
        check.same("of 24 notes, with another one", x.shared(2, 3), 23);
        x.retire(2);
        check.same("a retired one", x.shared(2, 2), 23);
    }

    private static void sharedOfNoTune() {
        check.says(10, "Throws IndexOutOfBoundsException if there never was such a tune one, or such an other one");
        TuneCatalogue x = Some.of(Some.row(1, 2), Some.row(1, 2));
        x.retire(0);
        check.same("a retired one", x.shared(0, 1), 1);
        check.same("a retired other one", x.shared(1, 0), 1);
        for (int tune : Some.beyond(0, 1)) {
            check.throwsJust("one " + tune, Some.INDEX, () -> x.shared(tune, 1));
            check.throwsJust("other " + tune, Some.INDEX, () -> x.shared(1, tune));
            check.throwsJust("both " + tune, Some.INDEX, () -> x.shared(tune, tune));
        }
    }
}
