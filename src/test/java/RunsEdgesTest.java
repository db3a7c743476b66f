/** Promises 20 and 21, and the terms that they rest on: a test for each sentence that names a boundary. */
public final class RunsEdgesTest {
    private static final Check check = new Check();

    public static void main(String[] args) {
        stepsInRange();
        enoughSteps();
        throwsTheFirst();
        lastStepsOfHum();
        exactSteps();
        runsAtTheEnds();
        overlappingRuns();
        knownTunesOnly();
        changedNotes();
        noPlaces();
        placeInRange();
        risingOrder();
        everyPlace();
        check.end("RunsEdgesTest");
    }

    private static void are(String what, TuneCatalogue x, int steps, int... due) {
        check.same(what + ", places(" + steps + ")", x.places(steps), due.length);
        for (int place = 0; place < due.length; place++) {
            check.same(what + ", place(" + steps + ", " + place + ")", x.place(steps, place), due[place]);
        }
        check.throwsJust(what + ", one more place", Some.INDEX, () -> x.place(steps, due.length));
        check.throwsJust(what + ", one place less", Some.INDEX, () -> x.place(steps, -1));
    }

    private static void stepsInRange() {
        for (int promise = 20; promise <= 21; promise++) {
            check.says(promise, "steps: [..] 1 to 4; throws IllegalArgumentException if steps is out of range");
            TuneCatalogue x = Some.of(Some.same(30, 24));
            boolean isPlace = promise == 21;
            for (int hummed = 0; hummed <= 12; hummed++) {
                for (int steps : Some.beyond(1, 4)) {
                    check.throwsJust(hummed + " hummed, steps " + steps, Some.ARGUMENT,
                            () -> isPlace ? x.place(steps, 0) : x.places(steps));
                }
                if (hummed < 12) {
                    x.hum(30);
                }
            }
            check.same("1", isPlace ? x.place(1, 22) : x.places(1), isPlace ? 22 : 23);
            check.same("4", isPlace ? x.place(4, 19) : x.places(4), isPlace ? 19 : 20);
        }
    }

    private static void enoughSteps() {
        for (int promise = 20; promise <= 21; promise++) {
            check.says(promise, "Throws IllegalStateException if the hum has not so many steps");
            TuneCatalogue x = Some.of(Some.same(30, 24));
            boolean isPlace = promise == 21;
            for (int hummed = 0; hummed <= 12; hummed++) {
                for (int steps = 1; steps <= 4; steps++) {
                    int asked = steps;
                    if (steps <= hummed - 1) {
                        check.same(hummed + " hummed, " + steps, isPlace ? x.place(steps, 0) : x.places(steps),
                                isPlace ? 0 : 24 - steps);
                    } else {
                        check.throwsJust(hummed + " hummed, " + steps, Some.STATE,
                                () -> isPlace ? x.place(asked, 0) : x.places(asked));
                    }
                }
                if (hummed < 12) {
                    x.hum(60);
                }
            }
            x.hush();
            check.throwsJust("emptied", Some.STATE, () -> isPlace ? x.place(1, 0) : x.places(1));
        }
    }

    private static void throwsTheFirst() {
        check.says(21, "of several exceptions it is the first one of the throws clause");
        TuneCatalogue x = Some.of(Some.row(30, 31));
        check.throwsJust("steps, no step, no place", Some.ARGUMENT, () -> x.place(0, -1));
        check.throwsJust("steps above, no step, no place", Some.ARGUMENT, () -> x.place(5, 9));
        check.throwsJust("no step, no place", Some.STATE, () -> x.place(1, -1));
        Some.hum(x, 1, 2, 3);
        check.throwsJust("steps, no place", Some.ARGUMENT, () -> x.place(5, 0));
        check.throwsJust("too few steps, no place", Some.STATE, () -> x.place(3, 0));
        check.throwsJust("no place", Some.INDEX, () -> x.place(2, 0));
        check.same("all right", x.place(1, 0), 0);
        check.says(20, "of several exceptions it is the first one of the throws clause");
        check.throwsJust("steps, too few steps", Some.ARGUMENT, () -> x.places(5));
        check.throwsJust("too few steps", Some.STATE, () -> x.places(4));
    }

    private static void lastStepsOfHum() {
        check.says(20, "the run [..] that the last steps of the hum make");
        TuneCatalogue x = Some.of(Some.rising(0, 1, 13), Some.row(30, 20, 21, 23, 26, 30));
        Some.hum(x, 9, 8, 7, 6, 5, 4, 3, 13, 14, 16, 19, 23);
        are("a full hum", x, 1, 104);
        are("a full hum", x, 2, 103);
        are("a full hum", x, 3, 102);
        are("a full hum", x, 4, 101);
        Some.hum(x, 50, 40);
        are("a hum of one step", x, 1, 100);
        x.hum(41);
        are("a hum of two steps", x, 1, 0, 1, 2, 3, 4, 5, 6, 7, 8, 9, 10, 11, 101);
        are("a hum of two steps", x, 2, 100);
        x.hum(43);
        x.hum(46);
        are("a hum of four steps", x, 4, 100);
        x.hum(50);
        are("a hum of five steps", x, 4, 101);
    }

    private static void exactSteps() {
        check.says(20, "A run is a row of steps from each note to the next one.");
        TuneCatalogue x = Some.of(Some.row(0, 60, 0), Some.row(30, 31, 30), Some.row(30, 30, 32));
        Some.hum(x, 0, 60);
        are("60 up", x, 1, 0);
        Some.hum(x, 60, 0);
        are("60 down", x, 1, 1);
        Some.hum(x, 59, 60);
        are("1 up", x, 1, 100);
        Some.hum(x, 1, 0);
        are("1 down", x, 1, 101);
        Some.hum(x, 60, 60);
        are("none", x, 1, 200);
        Some.hum(x, 5, 7);
        are("2 up, not over a note between", x, 1, 201);
        Some.hum(x, 0, 60, 0);
        are("up and down", x, 2, 0);
        Some.hum(x, 60, 0, 60);
        are("down and up", x, 2);
    }

    private static void runsAtTheEnds() {
        check.says(20, "Returns at how many notes of known tunes the run [..] begins; the first one and the last one");
        TuneCatalogue x = new TuneCatalogue();
        for (int notes = 1; notes <= 6; notes++) {
            Some.tune(x, Some.rising(0, 7, notes));
        }
        Some.hum(x, 1, 8, 15, 22, 29);
        are("a run of one", x, 1, 100, 200, 201, 300, 301, 302, 400, 401, 402, 403, 500, 501, 502, 503, 504);
        are("a run of two", x, 2, 200, 300, 301, 400, 401, 402, 500, 501, 502, 503);
        are("a run of three", x, 3, 300, 400, 401, 500, 501, 502);
        are("a run of four", x, 4, 400, 500, 501);
        TuneCatalogue y = Some.of(Some.row(0, 5), Some.row(10, 0));
        Some.hum(y, 0, 10);
        are("no step from a tune to the next one", y, 1);
    }

    private static void overlappingRuns() {
        check.says(21, "Returns one of these notes; runs may overlap");
        TuneCatalogue x = Some.of(Some.row(1, 2, 1, 2, 1, 2, 1), Some.same(5, 6));
        Some.hum(x, 31, 32, 31, 32, 31);
        are("up and down", x, 2, 0, 2, 4);
        are("up and down twice", x, 4, 0, 2);
        are("down, up, down", x, 3, 1, 3);
        Some.hum(x, 9, 9, 9, 9, 9);
        are("four times the same", x, 4, 100, 101);
    }

    private static void knownTunesOnly() {
        check.says(20, "of known tunes");
        TuneCatalogue x = Some.of(Some.row(1, 3), Some.row(2, 4), Some.row(3, 5));
        Some.hum(x, 30, 32);
        are("all known", x, 1, 0, 100, 200);
        x.retire(1);
        are("the midst one retired", x, 1, 0, 200);
        x.retire(0);
        are("the first one retired", x, 1, 200);
        x.retire(2);
        are("all retired", x, 1);
        Some.tune(x, 58, 60);
        are("a new one", x, 1, 300);
    }

    private static void changedNotes() {
        check.says(20, "tunes are corrected and retired; the index tells where runs come then");
        TuneCatalogue x = Some.of(Some.row(1, 3, 5, 7));
        Some.hum(x, 30, 32, 34);
        are("at first", x, 2, 0, 1);
        x.correct(0, 3, 8, 1);
        are("the last note corrected", x, 2, 0);
        x.correct(0, 0, 0, 1);
        are("the first note corrected", x, 2);
        x.correct(0, 0, 1, 8);
        are("corrected back", x, 2, 0);
        x.shift(0, 52);
        are("shifted", x, 2, 0);
        x.correct(0, 3, 59, 1);
        are("the last note again", x, 2, 0, 1);
        x.shift(0, -30);
        x.note(0, 31, 1);
        are("a new note", x, 2, 0, 1, 2);
        x.hum(36);
        are("hummed on", x, 2, 0, 1, 2);
        are("hummed on", x, 3, 0, 1);
    }

    private static void noPlaces() {
        check.says(21, "Throws IndexOutOfBoundsException if there are not so many of these notes; none");
        for (int tunes : Some.row(0, 1, 16)) {
            TuneCatalogue x = Some.ofTunes(tunes);
            Some.hum(x, 30, 30, 30, 30, 30);
            for (int steps = 1; steps <= 4; steps++) {
                are(tunes + " tunes of one note", x, steps);
            }
        }
    }

    private static void placeInRange() {
        check.says(21, "place: from 0; throws IndexOutOfBoundsException if there are not so many of these notes");
        TuneCatalogue x = Some.of(Some.row(1, 2, 3, 4), Some.row(5, 6));
        Some.hum(x, 9, 10, 11);
        check.same("the first of four", x.place(1, 0), 0);
        check.same("the last of four", x.place(1, 3), 100);
        check.same("the last of two", x.place(2, 1), 1);
        for (int place : Some.beyond(0, 3)) {
            check.throwsJust("place " + place + " of 4", Some.INDEX, () -> x.place(1, place));
        }
        for (int place : Some.beyond(0, 1)) {
            check.throwsJust("place " + place + " of 2", Some.INDEX, () -> x.place(2, place));
        }
        x.retire(1);
        check.throwsJust("the fourth, when there are three", Some.INDEX, () -> x.place(1, 3));
    }

    private static void risingOrder() {
        check.says(21, "by rising tunes and notes; returns 100 times the tune, plus the note");
        TuneCatalogue x = new TuneCatalogue();
        for (int tune = 0; tune < 16; tune++) {
            Some.tune(x, Some.rising(0, 1, 2 + tune % 2));
        }
        Some.hum(x, 50, 51);
        int place = 0;
        for (int tune = 0; tune < 16; tune++) {
            for (int note = 0; note <= tune % 2; note++) {
                check.same("place " + place, x.place(1, place), 100 * tune + note);
                place++;
            }
        }
        check.same("all of them", x.places(1), place);
    }

    private static void everyPlace() {
        check.says(21, "Returns one of these notes, of 16 tunes of 24 notes");
        TuneCatalogue x = new TuneCatalogue();
        for (int tune = 0; tune < 16; tune++) {
            Some.tune(x, Some.same(60, 24));
        }
        Some.hum(x, Some.same(0, 12));
        for (int steps = 1; steps <= 4; steps++) {
            int asked = steps;
            int each = 24 - steps;
            check.same("all, " + steps, x.places(steps), 16 * each);
            check.same("the last of all, " + steps, x.place(steps, 16 * each - 1), 1500 + each - 1);
            check.same("the last of the first tune, " + steps, x.place(steps, each - 1), each - 1);
            check.same("the first of the second tune, " + steps, x.place(steps, each), 100);
            check.throwsJust("one more, " + steps, Some.INDEX, () -> x.place(asked, 16 * each));
        }
    }
}
