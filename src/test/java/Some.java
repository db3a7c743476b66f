/** Makes catalogues for the tests. */
final class Some {
    static final Class<?> INDEX = IndexOutOfBoundsException.class;
    static final Class<?> ARGUMENT = IllegalArgumentException.class;
    static final Class<?> STATE = IllegalStateException.class;

    private Some() {
    }

    /** Adds a tune of these pitches, each of length 1. */
    static int tune(TuneCatalogue catalogue, int... pitches) {
        int tune = catalogue.add(pitches[0], 1);
        for (int note = 1; note < pitches.length; note++) {
            catalogue.note(tune, pitches[note], 1);
        }
        return tune;
    }

    static TuneCatalogue of(int[]... tunes) {
        TuneCatalogue catalogue = new TuneCatalogue();
        for (int[] pitches : tunes) {
            tune(catalogue, pitches);
        }
        return catalogue;
    }

    /** Hums these pitches and no others. */
    static void hum(TuneCatalogue catalogue, int... pitches) {
        catalogue.hush();
        for (int pitch : pitches) {
            catalogue.hum(pitch);
        }
    }

    static int[] row(int... numbers) {
        return numbers;
    }
}
