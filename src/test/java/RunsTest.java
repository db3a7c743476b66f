/** Promises 20 and 21: where runs of steps come. */
public final class RunsTest {
    private static final Check check = new Check();

    public static void main(String[] args) {
        places();
        lastSteps();
        changes();
        wrongSteps();
        wrongPlaces();
        manyPlaces();
        check.end("RunsTest");
    }

    private static void places() {
        TuneCatalogue x = Some.of(Some.row(10, 12, 14, 16, 15), Some.row(2), Some.row(30, 29, 31, 33));
        Some.hum(x, 40, 42);
        check.same("20: one step", x.places(1), 5);
        int[] due = Some.row(0, 1, 2, 201, 202);
        for (int place = 0; place < due.length; place++) {
            check.same("21: one step, place " + place, x.place(1, place), due[place]);
        }
        x.hum(44);
        check.same("20: two steps, which overlap", x.places(2), 3);
        check.same("21: two steps", x.place(2, 2), 201);
        x.hum(46);
        check.same("20: three steps", x.places(3), 1);
        x.hum(45);
        check.same("20: four steps", x.places(4), 1);
        check.same("21: four steps", x.place(4, 0), 0);
    }

    private static void lastSteps() {
        TuneCatalogue x = Some.of(Some.row(1, 9, 2, 4, 1), Some.row(10, 12, 9));
        Some.hum(x, 50, 40, 42, 39);
        check.same("20: the last two", x.places(2), 2);
        check.same("21: the last two, first", x.place(2, 0), 2);
        check.same("21: the last two, second", x.place(2, 1), 100);
        check.same("20: all three", x.places(3), 0);
        TuneCatalogue y = Some.of(Some.row(0, 30, 32, 0));
        Some.hum(y, 29, 30, 32);
        check.same("20: no step is ahead of the hum or behind it", y.places(1), 1);
        check.same("20: the last one", x.places(1), 2);
        check.same("21: the last one", x.place(1, 0), 3);
    }

    private static void changes() {
        TuneCatalogue x = Some.of(Some.row(1, 3, 5), Some.row(1, 3, 5));
        Some.hum(x, 20, 22);
        check.same("20: at first", x.places(1), 4);
        x.correct(0, 1, 4, 1);
        check.same("20: corrected", x.places(1), 2);
        x.shift(1, 30);
        check.same("20: shifted", x.places(1), 2);
        x.note(0, 7, 1);
        check.same("21: a new note", x.place(1, 0), 2);
        x.retire(0);
        check.same("20: retired", x.places(1), 2);
        check.same("21: retired", x.place(1, 0), 100);
        x.hum(21);
        check.same("20: hummed on", x.places(1), 0);
    }

    private static void wrongSteps() {
        TuneCatalogue x = Some.of(Some.row(1, 1, 1, 1, 1, 1, 1, 1));
        for (int hummed = 0; hummed <= 7; hummed++) {
            for (int steps : Some.row(-1, 0, 5, Integer.MIN_VALUE, Integer.MAX_VALUE)) {
                check.throwsJust("20: steps " + steps, Some.ARGUMENT, () -> x.places(steps));
                check.throwsJust("21: steps " + steps, Some.ARGUMENT, () -> x.place(steps, -1));
            }
            for (int steps = 1; steps <= 4; steps++) {
                int asked = steps;
                if (steps < hummed) {
                    check.same("20: " + steps, x.places(steps), 8 - steps);
                    check.same("21: " + steps, x.place(steps, 7 - steps), 7 - steps);
                } else {
                    check.throwsJust("20: too few steps", Some.STATE, () -> x.places(asked));
                    check.throwsJust("21: too few steps", Some.STATE, () -> x.place(asked, -1));
                }
            }
            x.hum(5);
        }
    }

    private static void wrongPlaces() {
        TuneCatalogue x = Some.of(Some.row(1, 2, 3));
        Some.hum(x, 1, 2);
        for (int place : Some.row(-1, 2, 3, Integer.MIN_VALUE, Integer.MAX_VALUE)) {
            check.throwsJust("21: place " + place, Some.INDEX, () -> x.place(1, place));
        }
        check.same("21: the last one", x.place(1, 1), 1);
    }

    private static void manyPlaces() {
        TuneCatalogue x = new TuneCatalogue();
        for (int tune = 0; tune < 16; tune++) {
            Some.tune(x, new int[24]);
        }
        Some.hum(x, 9, 9, 9, 9, 9, 9, 9, 9, 9, 9, 9, 9);
        check.same("20: one step, everywhere", x.places(1), 16 * 23);
        check.same("21: the last of all", x.place(1, 16 * 23 - 1), 1522);
        check.same("20: four steps, everywhere", x.places(4), 16 * 20);
        check.same("21: the 21st of all", x.place(4, 20), 100);
    }
}
