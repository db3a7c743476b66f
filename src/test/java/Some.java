/** Makes catalogues and arguments for the tests. */
final class Some {
    static final Class<?> INDEX = IndexOutOfBoundsException.class;
    static final Class<?> ARGUMENT = IllegalArgumentException.class;
    static final Class<?> STATE = IllegalStateException.class;

    private Some() {
    }

    /** Adds a tune of these pitches, each of length 1. */
    static int tune(TuneCatalogue catalogue, int... pitches) {
        int tune = catalogue.add(pitches[0], 1);
        for (int note = 1; note < pitches.length; note++) {
            catalogue.note(tune, pitches[note], 1);
        }
        return tune;
    }

    static TuneCatalogue of(int[]... tunes) {
        TuneCatalogue catalogue = new TuneCatalogue();
        for (int[] pitches : tunes) {
            tune(catalogue, pitches);
        }
        return catalogue;
    }

    /** So many tunes of one note each. */
    static TuneCatalogue ofTunes(int tunes) {
        TuneCatalogue catalogue = new TuneCatalogue();
        for (int tune = 0; tune < tunes; tune++) {
            catalogue.add(30, 1);
        }
        return catalogue;
    }

    /** Hums these pitches and no others. */
    static void hum(TuneCatalogue catalogue, int... pitches) {
        catalogue.hush();
        for (int pitch : pitches) {
            catalogue.hum(pitch);
        }
    }

    static int[] row(int... numbers) {
        return numbers;
    }

    /** So many numbers, each higher than the one before by the same. */
    static int[] rising(int first, int by, int count) {
        int[] numbers = new int[count];
        for (int i = 0; i < count; i++) {
            numbers[i] = first + i * by;
        }
        return numbers;
    }

    static int[] same(int number, int count) {
        return rising(number, 0, count);
    }

    /**
     * Numbers outside a range: the first ones beyond it on either side, those far
     * outside, and those that fall inside when they are cut to a byte or a short,
     * or when a sum or a difference with them wraps around.
     */
    static int[] beyond(int lowest, int highest) {
        return row(lowest - 1, highest + 1, lowest - 256, highest + 256, lowest - 65536, highest + 65536,
                Integer.MIN_VALUE, Integer.MIN_VALUE + 1, Integer.MIN_VALUE + highest, Integer.MIN_VALUE + 61,
                Integer.MAX_VALUE - highest, Integer.MAX_VALUE - 60, Integer.MAX_VALUE - 1, Integer.MAX_VALUE);
    }

    static int shifted(TuneCatalogue catalogue, int tune, int by) {
        catalogue.shift(tune, by);
        return by;
    }

    static int priced(TuneCatalogue catalogue, int slip, int ornament, int repeat) {
        catalogue.setCosts(slip, ornament, repeat);
        return 0;
    }
}
