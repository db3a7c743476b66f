/**
 * A catalogue of tunes that are searched by their hummed beginnings: tunes are
 * told by steps between notes, so that shifts do not matter.
 */
public final class TuneCatalogue {
    private static final int MOST_TUNES = 16;
    private static final int MOST_NOTES = 24;
    private static final int HIGHEST_PITCH = 60;
    private static final int LONGEST_LENGTH = 8;
    private static final int FARTHEST_SHIFT = 60;
    private static final int MOST_HUMMED = 12;
    private static final int MOST_HUMMED_FOR_TRYING = 8;
    private static final int DEAREST_COST = 20;
    private static final int MOST_LEFT_OUT = 2;
    private static final int OTHER_PITCH_FACTOR = 3;
    private static final int LONGEST_RUN = 4;
    private static final int TUNE_FACTOR_OF_PLACE = 100;
    private static final int NONE = -1;

    private final Tune[] entries = new Tune[MOST_TUNES];
    private int entered;
    private final Matching matching = new Matching();
    private final Row humRow = matching.hum;
    private final Links links = new Links();

    // Rows that calls fill anew and use at once; kept so that no call makes its own.
    private final Row priceRow = new Row(MOST_TUNES);
    private final Row placeRow = new Row(MOST_TUNES * MOST_NOTES);

    public TuneCatalogue() {
    }

    // ---- tunes

    public int add(int pitch, int length) throws IllegalArgumentException, IllegalStateException {
        refuseUnlessNote(pitch, length);
        if (!isWithin(entered, 0, entries.length - 1)) {
            throw new IllegalStateException("there are as many tunes as there may be");
        }
        Tune tune = new Tune();
        tune.append(pitch, length);
        entries[entered] = tune;
        entered++;
        links.admitTune();
        return entered - 1;
    }

    public int note(int tune, int pitch, int length)
            throws IndexOutOfBoundsException, IllegalArgumentException, IllegalStateException {
        Tune known = knownOrThrow(tune);
        refuseUnlessNote(pitch, length);
        if (known.pitches.isFull()) {
            throw new IllegalStateException("the tune has as many notes as it may have");
        }
        known.append(pitch, length);
        return known.size();
    }

    public int correct(int tune, int note, int pitch, int length)
            throws IndexOutOfBoundsException, IllegalArgumentException {
        Tune known = knownOrThrow(tune);
        if (note < 0 || note >= known.size()) {
            throw new IndexOutOfBoundsException("the tune has no such note");
        }
        refuseUnlessNote(pitch, length);
        int before = known.pitches.at(note);
        known.pitches.put(note, pitch);
        known.lengths.put(note, length);
        return before;
    }

    public void shift(int tune, int by)
            throws IndexOutOfBoundsException, IllegalArgumentException, IllegalStateException {
        Tune known = knownOrThrow(tune);
        refuseUnlessWithin(by, -FARTHEST_SHIFT, FARTHEST_SHIFT);
        for (int note = 0; note < known.size(); note++) {
            if (!isWithin(known.pitches.at(note) + by, 0, HIGHEST_PITCH)) {
                throw new IllegalStateException("a pitch would be out of range");
            }
        }
        for (int note = 0; note < known.size(); note++) {
            known.pitches.put(note, known.pitches.at(note) + by);
        }
    }

    public int retire(int tune) throws IndexOutOfBoundsException {
        knownOrThrow(tune).retired = true;
        int left = 0;
        for (int other = 0; other < entered; other++) {
            if (knownOrNull(other) != null) {
                left++;
            }
        }
        return left;
    }

    public int tunes() {
        return entered;
    }

    public int notes(int tune) throws IndexOutOfBoundsException {
        return enteredOrThrow(tune).size();
    }

    public int step(int tune, int note) throws IndexOutOfBoundsException {
        Tune entry = enteredOrThrow(tune);
        if (note < 0 || note >= entry.size() - 1) {
            throw new IndexOutOfBoundsException("the tune has no such note with a next one");
        }
        return entry.pitches.stepFrom(note);
    }

    public int shared(int one, int other) throws IndexOutOfBoundsException {
        Row first = enteredOrThrow(one).pitches;
        Row second = enteredOrThrow(other).pitches;
        int longest = 0;
        for (int from = 0; from < first.size(); from++) {
            for (int start = 0; start < second.size(); start++) {
                longest = Math.max(longest, first.stepsInCommon(from, second, start));
            }
        }
        return longest;
    }

    // ---- the hum and matches

    public int hum(int pitch) throws IllegalArgumentException, IllegalStateException {
        refuseUnlessWithin(pitch, 0, HIGHEST_PITCH);
        if (humRow.isFull()) {
            throw new IllegalStateException("the hum has as many pitches as it may have");
        }
        humRow.append(pitch);
        return humRow.size();
    }

    public int hush() {
        int had = humRow.size();
        humRow.clear();
        return had;
    }

    public int hummed() {
        return humRow.size();
    }

    public void setCosts(int slip, int ornament, int repeat) throws IllegalArgumentException {
        refuseUnlessWithin(slip, 0, DEAREST_COST);
        refuseUnlessWithin(ornament, 0, DEAREST_COST);
        refuseUnlessWithin(repeat, 0, DEAREST_COST);
        matching.slip = slip;
        matching.ornament = ornament;
        matching.repeat = repeat;
    }

    public int cost(int tune) throws IndexOutOfBoundsException {
        return matching.cheapestByTable(knownOrThrow(tune));
    }

    public int costByAll(int tune) throws IndexOutOfBoundsException, IllegalStateException {
        Tune known = knownOrThrow(tune);
        if (humRow.size() > MOST_HUMMED_FOR_TRYING) {
            throw new IllegalStateException("the hum is too long for trying all matches");
        }
        return matching.cheapestByTrying(known);
    }

    public int matches() {
        priceTunes();
        int count = 0;
        for (int tune = 0; tune < priceRow.size(); tune++) {
            if (priceRow.at(tune) != NONE) {
                count++;
            }
        }
        return count;
    }

    public int found(int rank) throws IndexOutOfBoundsException {
        priceTunes();
        for (int tune = 0; tune < priceRow.size(); tune++) {
            if (priceRow.at(tune) != NONE && rankByPrice(tune) == rank) {
                return tune;
            }
        }
        throw new IndexOutOfBoundsException("there are not so many tunes with a match");
    }

    public int likeContour() {
        int alike = 0;
        for (int tune = 0; tune < entered; tune++) {
            Tune known = knownOrNull(tune);
            if (known != null && known.pitches.beginsWithContourOf(humRow)) {
                alike |= 1 << tune;
            }
        }
        return alike;
    }

    // ---- runs

    public int places(int steps) throws IllegalArgumentException, IllegalStateException {
        refuseUnlessRunOfHum(steps);
        collectPlaces(steps);
        return placeRow.size();
    }

    public int place(int steps, int place)
            throws IllegalArgumentException, IllegalStateException, IndexOutOfBoundsException {
        refuseUnlessRunOfHum(steps);
        collectPlaces(steps);
        if (place < 0 || place >= placeRow.size()) {
            throw new IndexOutOfBoundsException("there are not so many of these notes");
        }
        return placeRow.at(place);
    }

    // ---- families

    public int link(int one, int other)
            throws IndexOutOfBoundsException, IllegalArgumentException, IllegalStateException {
        refuseUnlessEntered(one, other);
        if (one == other) {
            throw new IllegalArgumentException("a link joins two unlike tunes");
        }
        if (links.areLinked(one, other)) {
            throw new IllegalStateException("there is a link of both");
        }
        links.toggle(one, other);
        return links.countFamilies();
    }

    public int cut(int one, int other) throws IndexOutOfBoundsException, IllegalStateException {
        refuseUnlessEntered(one, other);
        if (!links.areLinked(one, other)) {
            throw new IllegalStateException("there is no link of both");
        }
        links.toggle(one, other);
        return links.countFamilies();
    }

    public int family(int tune) throws IndexOutOfBoundsException {
        enteredOrThrow(tune);
        return links.lowestOfFamily(tune);
    }

    public int families() {
        return links.countFamilies();
    }

    // ---- what the calls share

    private static boolean isWithin(int number, int lowest, int highest) {
        return number >= lowest && number <= highest;
    }

    private static void refuseUnlessWithin(int number, int lowest, int highest) {
        if (!isWithin(number, lowest, highest)) {
            throw new IllegalArgumentException("a number is out of range");
        }
    }

    private static void refuseUnlessNote(int pitch, int length) {
        refuseUnlessWithin(pitch, 0, HIGHEST_PITCH);
        refuseUnlessWithin(length, 1, LONGEST_LENGTH);
    }

    private void refuseUnlessRunOfHum(int steps) {
        refuseUnlessWithin(steps, 1, LONGEST_RUN);
        if (steps > humRow.size() - 1) {
            throw new IllegalStateException("the hum has not so many steps");
        }
    }

    private void refuseUnlessEntered(int one, int other) {
        enteredOrThrow(one);
        enteredOrThrow(other);
    }

    private Tune enteredOrNull(int tune) {
        return tune >= 0 && tune < entered && tune < entries.length ? entries[tune] : null;
    }

    private Tune knownOrNull(int tune) {
        Tune entry = enteredOrNull(tune);
        return entry == null || entry.retired ? null : entry;
    }

    private Tune enteredOrThrow(int tune) {
        Tune entry = enteredOrNull(tune);
        if (entry == null) {
            throw new IndexOutOfBoundsException("there never was such a tune");
        }
        return entry;
    }

    private Tune knownOrThrow(int tune) {
        Tune known = knownOrNull(tune);
        if (known == null) {
            throw new IndexOutOfBoundsException("no such tune is known");
        }
        return known;
    }

    /** Puts down the cost of each tune, NONE for those that are not ranked. */
    private void priceTunes() {
        priceRow.clear();
        for (int tune = 0; tune < entered; tune++) {
            Tune known = knownOrNull(tune);
            priceRow.append(known == null ? NONE : matching.cheapestByTable(known));
        }
    }

    private int rankByPrice(int tune) {
        int price = priceRow.at(tune);
        int rank = 0;
        for (int other = 0; other < priceRow.size(); other++) {
            int otherPrice = priceRow.at(other);
            boolean isAhead = otherPrice < price || otherPrice == price && other < tune;
            if (otherPrice != NONE && isAhead) {
                rank++;
            }
        }
        return rank;
    }

    /** Puts down the place of each note of a known tune at which the last steps of the hum begin. */
    private void collectPlaces(int steps) {
        placeRow.clear();
        for (int tune = 0; tune < entered; tune++) {
            Tune known = knownOrNull(tune);
            if (known != null) {
                collectPlacesOf(tune, known.pitches, steps);
            }
        }
    }

    private void collectPlacesOf(int tune, Row pitches, int steps) {
        int runStart = humRow.size() - 1 - steps;
        for (int note = 0; note < pitches.size(); note++) {
            // The run ends where the hum ends, so that no more than its steps can be in common.
            if (pitches.stepsInCommon(note, humRow, runStart) == steps) {
                placeRow.append(TUNE_FACTOR_OF_PLACE * tune + note);
            }
        }
    }

    /** A row of numbers in a room that does not grow; reads 0 where it has none. */
    private static final class Row {
        private final int[] numbers;
        private int size;

        Row(int room) {
            numbers = new int[Math.max(room, 0)];
        }

        int size() {
            return size;
        }

        boolean isFull() {
            return size >= numbers.length;
        }

        int at(int index) {
            return index >= 0 && index < size && index < numbers.length ? numbers[index] : 0;
        }

        void put(int index, int number) {
            if (index >= 0 && index < size && index < numbers.length) {
                numbers[index] = number;
            }
        }

        void append(int number) {
            if (size >= 0 && size < numbers.length) {
                numbers[size] = number;
                size++;
            }
        }

        void clear() {
            size = 0;
        }

        int stepFrom(int index) {
            return at(index + 1) - at(index);
        }

        /** How many steps are the same, from one number of each row on. */
        int stepsInCommon(int from, Row other, int otherFrom) {
            int longest = Math.min(size - from, other.size - otherFrom) - 1;
            int steps = 0;
            while (steps < longest && stepFrom(from + steps) == other.stepFrom(otherFrom + steps)) {
                steps++;
            }
            return steps;
        }

        boolean beginsWithContourOf(Row other) {
            if (other.size > size) {
                return false;
            }
            for (int index = 0; index < other.size - 1; index++) {
                if (direction(stepFrom(index)) != direction(other.stepFrom(index))) {
                    return false;
                }
            }
            return true;
        }

        private static int direction(int step) {
            return step > 0 ? 1 : step < 0 ? -1 : 0;
        }
    }

    private static final class Tune {
        private final Row pitches = new Row(MOST_NOTES);
        private final Row lengths = new Row(MOST_NOTES);
        private boolean retired;

        int size() {
            return pitches.size();
        }

        void append(int pitch, int length) {
            pitches.append(pitch);
            lengths.append(length);
        }
    }

    /** The hum and the costs; finds the cheapest match with a tune, in two ways. */
    private static final class Matching {
        private final Row hum = new Row(MOST_HUMMED);
        private int slip = 2;
        private int ornament = 3;
        private int repeat = 1;

        /** By pitch and note: the cheapest way to lay the pitch there, NONE if there is none. */
        private final int[] table = new int[MOST_HUMMED * MOST_NOTES];

        int cheapestByTable(Tune tune) {
            for (int pitch = 0; pitch < hum.size(); pitch++) {
                for (int note = 0; note < tune.size(); note++) {
                    setTableAt(pitch, note, cheapestTo(tune, pitch, note));
                }
            }
            int cheapest = NONE;
            for (int note = 0; note < tune.size(); note++) {
                cheapest = cheaper(cheapest, tableAt(hum.size() - 1, note));
            }
            return cheapest;
        }

        int cheapestByTrying(Tune tune) {
            return hum.size() == 0 ? NONE : cheapestOnward(tune, 0, 0, 1);
        }

        private int tableAt(int pitch, int note) {
            boolean isInside = isWithin(pitch, 0, MOST_HUMMED - 1) && isWithin(note, 0, MOST_NOTES - 1);
            int index = pitch * MOST_NOTES + note;
            return isInside && index >= 0 && index < table.length ? table[index] : NONE;
        }

        private void setTableAt(int pitch, int note, int cost) {
            int index = pitch * MOST_NOTES + note;
            if (index >= 0 && index < table.length) {
                table[index] = cost;
            }
        }

        private int cheapestTo(Tune tune, int pitch, int note) {
            if (pitch == 0) {
                return note == 0 ? 0 : NONE;
            }
            int cheapest = NONE;
            for (int leftOut = 0; leftOut <= MOST_LEFT_OUT; leftOut++) {
                cheapest = cheaper(cheapest, costBy(tune, pitch - 1, note - 1 - leftOut, pitch, note));
            }
            for (int leftOut = 1; leftOut <= MOST_LEFT_OUT; leftOut++) {
                cheapest = cheaper(cheapest, costBy(tune, pitch - 1 - leftOut, note - 1, pitch, note));
            }
            return cheapest;
        }

        private int costBy(Tune tune, int pitch, int note, int nextPitch, int nextNote) {
            int before = tableAt(pitch, note);
            return before == NONE ? NONE : before + costOfMove(tune, pitch, note, nextPitch, nextNote);
        }

        /** The cheapest of all ways to go on from a pitch that is laid on a note. */
        private int cheapestOnward(Tune tune, int pitch, int note, int laid) {
            if (pitch == hum.size() - 1) {
                return 0;
            }
            int cheapest = NONE;
            for (int leftOut = 0; leftOut <= MOST_LEFT_OUT; leftOut++) {
                cheapest = cheaper(cheapest,
                        costOnwardBy(tune, pitch, note, pitch + 1, note + 1 + leftOut, laid));
            }
            for (int leftOut = 1; leftOut <= MOST_LEFT_OUT; leftOut++) {
                cheapest = cheaper(cheapest,
                        costOnwardBy(tune, pitch, note, pitch + 1 + leftOut, note + 1, laid));
            }
            return cheapest;
        }

        private int costOnwardBy(Tune tune, int pitch, int note, int nextPitch, int nextNote, int laid) {
            boolean isThere = nextPitch < hum.size() && nextNote < tune.size();
            // Each level lays one more pitch, so that this limit also bounds the recursion.
            if (!isThere || laid >= MOST_HUMMED_FOR_TRYING) {
                return NONE;
            }
            int rest = cheapestOnward(tune, nextPitch, nextNote, laid + 1);
            return rest == NONE ? NONE : rest + costOfMove(tune, pitch, note, nextPitch, nextNote);
        }

        private int costOfMove(Tune tune, int pitch, int note, int nextPitch, int nextNote) {
            int stepOfTune = tune.pitches.at(nextNote) - tune.pitches.at(note);
            int stepOfHum = hum.at(nextPitch) - hum.at(pitch);
            int cost = slip * Math.abs(stepOfTune - stepOfHum);
            for (int leftOut = note + 1; leftOut < nextNote; leftOut++) {
                cost += ornament * tune.lengths.at(leftOut);
            }
            for (int leftOut = pitch + 1; leftOut < nextPitch; leftOut++) {
                boolean isRepeat = hum.at(leftOut) == hum.at(leftOut - 1);
                cost += isRepeat ? repeat : OTHER_PITCH_FACTOR * repeat;
            }
            return cost;
        }

        private static int cheaper(int one, int other) {
            if (one == NONE || other == NONE) {
                return Math.max(one, other);
            }
            return Math.min(one, other);
        }
    }

    /** The links of the tunes; retired ones keep theirs. */
    private static final class Links {
        /** For each tune, those it is linked with, as a set: 1 for tune 0, 2 for 1, 4 for 2, and so on. */
        private final Row partners = new Row(MOST_TUNES);

        void admitTune() {
            partners.append(0);
        }

        boolean areLinked(int one, int other) {
            return (partners.at(one) & setOf(other)) != 0;
        }

        void toggle(int one, int other) {
            partners.put(one, partners.at(one) ^ setOf(other));
            partners.put(other, partners.at(other) ^ setOf(one));
        }

        int countFamilies() {
            int count = 0;
            for (int tune = 0; tune < partners.size(); tune++) {
                if (lowestOfFamily(tune) == tune) {
                    count++;
                }
            }
            return count;
        }

        int lowestOfFamily(int tune) {
            int reached = setOf(tune);
            // A chain without a detour has fewer links than there are tunes.
            for (int links = 1; links < partners.size(); links++) {
                reached = withPartners(reached);
            }
            int lowest = 0;
            while (lowest < tune && (reached & setOf(lowest)) == 0) {
                lowest++;
            }
            return lowest;
        }

        private int withPartners(int set) {
            int wider = set;
            for (int tune = 0; tune < partners.size(); tune++) {
                if ((set & setOf(tune)) != 0) {
                    wider |= partners.at(tune);
                }
            }
            return wider;
        }

        private static int setOf(int tune) {
            return 1 << tune;
        }
    }
}
