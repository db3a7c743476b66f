/** Promises 11 to 19, and the terms that they rest on: a test for each sentence that names a boundary. */
public final class HumEdgesTest {
    private static final Check check = new Check();

    public static void main(String[] args) {
        hum();
        hushAndHummed();
        setCosts();
        whatIsLaid();
        whatIsLeftOut();
        whatItCosts();
        costAndCostByAll();
        matchesAndFound();
        likeContour();
        check.end("HumEdgesTest");
    }

    private static void both(String what, TuneCatalogue x, int due, int... hummed) {
        Some.hum(x, hummed);
        check.same(what + ", cost", x.cost(0), due);
        check.same(what + ", costByAll", x.costByAll(0), due);
    }

    private static TuneCatalogue priced(int slip, int ornament, int repeat, int... pitches) {
        TuneCatalogue x = Some.of(pitches);
        x.setCosts(slip, ornament, repeat);
        return x;
    }

    // ---- promise 11

    private static void hum() {
        pitchOfHum();
        twelvePitches();
        humThrowsTheFirst();
    }

    private static void pitchOfHum() {
        check.says(11, "pitch: 0 to 60");
        TuneCatalogue x = Some.of(Some.row(0, 60, 0));
        check.same("hum(0)", x.hum(0), 1);
        check.same("hum(60)", x.hum(60), 2);
        check.same("the widest step up", x.place(1, 0), 0);
        check.same("hum(0) again", x.hum(0), 3);
        check.same("the widest step down", x.place(1, 0), 1);
        for (int pitch : Some.beyond(0, 60)) {
            check.throwsJust("hum(" + pitch + ")", Some.ARGUMENT, () -> x.hum(pitch));
        }
        check.same("hummed", x.hummed(), 3);
        check.same("cost", x.cost(0), 0);
    }

    private static void twelvePitches() {
        check.says(11, "The hum is a row of pitches, [..] at most 12");
        TuneCatalogue x = Some.of(Some.rising(0, 1, 24));
        for (int pitches = 1; pitches <= 12; pitches++) {
            check.same("how many it has then", x.hum(40 + pitches), pitches);
        }
        check.throwsJust("the 13th", Some.STATE, () -> x.hum(0));
        check.throwsJust("the 13th, once more", Some.STATE, () -> x.hum(60));
        check.same("hummed", x.hummed(), 12);
        check.same("its last steps stand", x.places(4), 20);
        check.same("it stands", x.cost(0), 0);
        x.hush();
        for (int pitches = 1; pitches <= 12; pitches++) {
            check.same("how many it has then, once emptied", x.hum(60), pitches);
        }
        check.throwsJust("the 13th, once emptied", Some.STATE, () -> x.hum(60));
    }

    private static void humThrowsTheFirst() {
        check.says(11, "of several exceptions it is the first one of the throws clause");
        TuneCatalogue x = new TuneCatalogue();
        Some.hum(x, Some.same(30, 12));
        check.throwsJust("13th, pitch below", Some.ARGUMENT, () -> x.hum(-1));
        check.throwsJust("13th, pitch above", Some.ARGUMENT, () -> x.hum(61));
        check.throwsJust("13th alone", Some.STATE, () -> x.hum(60));
    }

    // ---- promises 12 and 13

    private static void hushAndHummed() {
        emptiesTheHum();
        howManyHummed();
    }

    private static void emptiesTheHum() {
        check.says(12, "Empties the hum. Returns how many pitches it had.");
        TuneCatalogue x = Some.of(Some.row(30, 31));
        for (int pitches = 0; pitches <= 12; pitches++) {
            Some.hum(x, Some.same(30, pitches));
            check.same("it had " + pitches, x.hush(), pitches);
            check.same("it is empty", x.hush(), 0);
            check.same("hummed", x.hummed(), 0);
            check.same("matches", x.matches(), 0);
            check.same("cost", x.cost(0), -1);
            check.same("likeContour", x.likeContour(), 1);
            check.throwsJust("places", Some.STATE, () -> x.places(1));
        }
        both("nothing of what was hummed before is left", x, 0, 10, 11);
        check.same("places", x.places(1), 1);
        check.throwsJust("places of two steps", Some.STATE, () -> x.places(2));
    }

    private static void howManyHummed() {
        check.says(13, "Returns how many pitches the hum has.");
        TuneCatalogue x = new TuneCatalogue();
        check.same("none", x.hummed(), 0);
        for (int pitches = 1; pitches <= 12; pitches++) {
            check.throwsJust("a wrong one does not count", Some.ARGUMENT, () -> x.hum(61));
            x.hum(pitches);
            check.same("so many", x.hummed(), pitches);
        }
        check.throwsJust("the 13th does not count", Some.STATE, () -> x.hum(1));
        check.same("full", x.hummed(), 12);
        x.hush();
        check.same("emptied", x.hummed(), 0);
    }

    // ---- promise 14

    private static void setCosts() {
        costsAtFirst();
        rangesOfCosts();
        refusedCostsChangeNothing();
        costsStay();
    }

    /** The costs of a slip of 1, of a note left out, of a repeat left out, and of another pitch left out. */
    private static void areCosts(String what, int slip, int ornament, int repeat, TuneCatalogue x) {
        Some.hum(x, 10, 21);
        check.same(what + ", slip", x.cost(0), slip);
        Some.hum(x, 10, 20);
        check.same(what + ", ornament", x.cost(1), ornament);
        Some.hum(x, 10, 10, 20);
        check.same(what + ", repeat", x.cost(0), repeat);
        Some.hum(x, 10, 50, 20);
        check.same(what + ", other pitch", x.cost(0), 3 * repeat);
    }

    private static TuneCatalogue forCosts() {
        return Some.of(Some.row(10, 20), Some.row(10, 60, 20));
    }

    private static void costsAtFirst() {
        check.says(14, "The costs are 2, 3 and 1 at first.");
        areCosts("a new object", 2, 3, 1, forCosts());
    }

    private static void rangesOfCosts() {
        check.says(14, "slip, ornament, repeat: 0 to 20");
        TuneCatalogue x = forCosts();
        int[] ends = Some.row(1, 20);
        for (int slip : ends) {
            for (int ornament : ends) {
                for (int repeat : ends) {
                    x.setCosts(slip, ornament, repeat);
                    areCosts("at an end", slip, ornament, repeat, x);
                }
            }
        }
        x.setCosts(0, 20, 20);
        Some.hum(x, 0, 60);
        check.same("slip of 0", x.cost(0), 0);
        x.setCosts(20, 0, 20);
        areCosts("ornament of 0", 20, 0, 20, x);
        x.setCosts(20, 20, 0);
        areCosts("repeat of 0", 20, 20, 0, x);
        x.setCosts(0, 0, 0);
        areCosts("all of 0", 0, 0, 0, x);
        for (int cost : Some.beyond(0, 20)) {
            check.throwsJust("slip " + cost, Some.ARGUMENT, () -> Some.priced(x, cost, 0, 20));
            check.throwsJust("ornament " + cost, Some.ARGUMENT, () -> Some.priced(x, 20, cost, 0));
            check.throwsJust("repeat " + cost, Some.ARGUMENT, () -> Some.priced(x, 0, 20, cost));
            check.throwsJust("all " + cost, Some.ARGUMENT, () -> Some.priced(x, cost, cost, cost));
        }
        areCosts("still all of 0", 0, 0, 0, x);
    }

    private static void refusedCostsChangeNothing() {
        check.says(14, "When a call throws, nothing has changed; none of the three costs");
        TuneCatalogue x = forCosts();
        check.throwsJust("the first one, at first", Some.ARGUMENT, () -> Some.priced(x, 21, 7, 8));
        check.throwsJust("the second one, at first", Some.ARGUMENT, () -> Some.priced(x, 7, 21, 8));
        check.throwsJust("the third one, at first", Some.ARGUMENT, () -> Some.priced(x, 7, 8, 21));
        areCosts("as at first", 2, 3, 1, x);
        x.setCosts(4, 5, 6);
        check.throwsJust("the first one", Some.ARGUMENT, () -> Some.priced(x, -1, 7, 8));
        check.throwsJust("the second one", Some.ARGUMENT, () -> Some.priced(x, 7, -1, 8));
        check.throwsJust("the third one", Some.ARGUMENT, () -> Some.priced(x, 7, 8, -1));
        areCosts("as they were set", 4, 5, 6, x);
    }

    private static void costsStay() {
        check.says(14, "Sets the costs; they stay through other calls");
        TuneCatalogue x = forCosts();
        x.setCosts(9, 8, 7);
        x.hush();
        x.add(30, 1);
        x.retire(2);
        areCosts("afterwards", 9, 8, 7, x);
    }

    // ---- promises 15 and 16: what a match lays

    private static void whatIsLaid() {
        emptyHum();
        firstOnFirst();
        laterOnLater();
        lastIsLaid();
        beginningOfTune();
    }

    private static void emptyHum() {
        check.says(15, "With an empty hum, no tune has a match.");
        TuneCatalogue x = Some.of(Some.row(30), Some.row(30, 31), Some.rising(0, 1, 24));
        for (int tune = 0; tune < 3; tune++) {
            check.same("cost", x.cost(tune), -1);
            check.same("costByAll", x.costByAll(tune), -1);
        }
        Some.hum(x, 30);
        x.cost(2);
        x.hush();
        check.same("cost, once emptied", x.cost(2), -1);
        check.same("costByAll, once emptied", x.costByAll(2), -1);
        check.same("matches, once emptied", x.matches(), 0);
    }

    private static void firstOnFirst() {
        check.says(15, "A match lays the first pitch of the hum on the first note of a tune");
        both("the only pitch on the only note", Some.of(Some.row(60)), 0, 0);
        both("the only pitch on the first of 24", Some.of(Some.rising(0, 1, 24)), 0, 60);
        both("the first note is not left out", priced(1, 0, 0, 40, 10, 12), 30, 10, 12);
        both("the first pitch is not left out", priced(1, 0, 0, 10, 12), 30, 40, 10, 12);
    }

    private static void laterOnLater() {
        check.says(15, "and each later one that it lays on a later note than the one before");
        both("two pitches, one note", Some.of(Some.row(10)), -1, 10, 10);
        both("two pitches, two notes", Some.of(Some.row(10, 10)), 0, 10, 10);
        both("two pitches are not on one note", priced(20, 20, 20, 10, 20), 20, 10, 10, 20);
        both("no pitch goes back to a note", priced(2, 3, 1, 10, 20), 23, 10, 20, 10);
    }

    private static void lastIsLaid() {
        check.says(15, "the last pitch of the hum is laid");
        both("a last one that fits nothing", priced(20, 20, 5, 10, 12), 20 * 18 + 15, 10, 12, 30);
        both("a last one that is repeated", priced(20, 20, 5, 10, 12), 15, 10, 12, 12);
        both("the last one of two", Some.of(Some.row(10)), -1, 10, 12);
    }

    private static void beginningOfTune() {
        check.says(15, "tunes [..] are searched by their hummed beginnings; what comes behind is free");
        TuneCatalogue x = Some.of(Some.rising(0, 2, 24));
        for (int pitches = 1; pitches <= 12; pitches++) {
            Some.hum(x, Some.rising(30, 2, pitches));
            check.same("so many of 24", x.cost(0), 0);
        }
        both("the last of eight", x, 2, 0, 2, 4, 6, 8, 10, 12, 15);
        both("of eight notes all", Some.of(Some.rising(0, 2, 8)), 0, 0, 2, 4, 6, 8, 10, 12, 14);
        TuneCatalogue y = Some.of(Some.row(0, 60, 60, 1, 60, 60, 2, 60, 60, 3, 60, 60,
                4, 60, 60, 5, 60, 60, 6, 60, 60, 7, 60, 50));
        y.setCosts(20, 1, 20);
        Some.hum(y, 0, 1, 2, 3, 4, 5, 6, 7, 50);
        check.same("the last one on the 24th note", y.cost(0), 15);
        y.correct(0, 23, 51, 8);
        check.same("the last one on the 24th note, with a slip", y.cost(0), 35);
    }

    // ---- promises 15 and 16: what a match leaves out

    private static void whatIsLeftOut() {
        twoNotes();
        twoPitches();
        pitchesPerNote();
        notBoth();
    }

    private static void twoNotes() {
        check.says(15, "it leaves out at most 2 notes of the tune");
        both("none", priced(20, 0, 0, 0, 5), 0, 0, 5);
        both("one", priced(20, 0, 0, 0, 60, 5), 0, 0, 5);
        both("two", priced(20, 0, 0, 0, 60, 60, 5), 0, 0, 5);
        both("three", priced(20, 0, 0, 0, 60, 60, 60, 5), 20 * 55, 0, 5);
        both("two, and two again", priced(20, 0, 0, 0, 60, 60, 5, 60, 60, 10), 0, 0, 5, 10);
        both("two, and three", priced(20, 0, 0, 0, 60, 60, 5, 60, 60, 60, 10), 20 * 50, 0, 5, 10);
        TuneCatalogue x = new TuneCatalogue();
        x.setCosts(20, 0, 0);
        x.add(0, 8);
        for (int note = 1; note < 24; note++) {
            x.note(0, note % 3 == 0 ? note / 3 : 60, 8);
        }
        both("two between each of eight", x, 0, 0, 1, 2, 3, 4, 5, 6, 7);
    }

    private static void twoPitches() {
        check.says(15, "or at most 2 pitches of the hum");
        both("none", priced(20, 20, 0, 0, 5), 0, 0, 5);
        both("one", priced(20, 20, 0, 0, 5), 0, 0, 60, 5);
        both("two", priced(20, 20, 0, 0, 5), 0, 0, 60, 60, 5);
        both("three", priced(20, 20, 0, 0, 5), -1, 0, 60, 60, 60, 5);
        both("two, and two again", priced(20, 20, 0, 0, 5, 10), 0, 0, 60, 60, 5, 60, 60, 10);
        both("two, and three", priced(20, 20, 0, 0, 5, 10), -1, 0, 60, 60, 5, 60, 60, 60, 10);
    }

    private static void pitchesPerNote() {
        check.says(15, "-1 if it has no match; at most 2 pitches are left out from one note to the next");
        for (int notes = 1; notes <= 13; notes++) {
            TuneCatalogue x = Some.of(Some.same(30, notes));
            for (int pitches = 1; pitches <= 12; pitches++) {
                Some.hum(x, Some.same(7, pitches));
                int due = pitches <= notes ? 0 : pitches <= 3 * notes - 2 ? pitches - notes : -1;
                check.same(pitches + " pitches, " + notes + " notes, cost", x.cost(0), due);
                check.same(pitches + " pitches, " + notes + " notes, matches", x.matches(), due < 0 ? 0 : 1);
                if (pitches <= 8) {
                    check.same(pitches + " pitches, " + notes + " notes, costByAll", x.costByAll(0), due);
                }
            }
        }
    }

    private static void notBoth() {
        check.says(15, "but not both");
        both("one of each", priced(20, 0, 0, 10, 50, 12), 20 * 38, 10, 30, 12);
        both("two of each", priced(20, 0, 0, 10, 50, 50, 12), 20 * 38, 10, 30, 30, 12);
        both("two pitches, one note", priced(20, 0, 0, 10, 50, 12), 20 * 38, 10, 30, 30, 12);
        both("one pitch, two notes", priced(20, 0, 0, 10, 50, 50, 12), 20 * 38, 10, 30, 12);
        both("a note, then a pitch", priced(20, 3, 1, 10, 50, 12, 14), 4, 10, 12, 12, 14);
        both("a pitch, then a note", priced(20, 3, 1, 10, 12, 50, 14), 4, 10, 10, 12, 14);
    }

    // ---- promises 15 and 16: what a match costs

    private static void whatItCosts() {
        slips();
        ornaments();
        repeats();
        cheapest();
    }

    private static void slips() {
        check.says(15, "the cost of a slip times by how much the step of the tune and that of the hum are unlike");
        TuneCatalogue x = priced(2, 3, 1, 10, 20);
        both("not at all", x, 0, 50, 60);
        both("by 1 too far", x, 2, 40, 51);
        both("by 1 too near", x, 2, 40, 49);
        both("the other way", x, 40, 20, 10);
        both("the widest", priced(20, 20, 20, 0, 60), 20 * 120, 60, 0);
        both("the widest, the other way", priced(20, 20, 20, 60, 0), 20 * 120, 0, 60);
        both("over notes left out, from laid to laid", priced(2, 3, 1, 0, 60, 5), 3, 0, 5);
        both("over pitches left out, from laid to laid", priced(2, 3, 1, 0, 5), 6, 0, 60, 0, 5);
        both("each two", priced(2, 3, 1, 0, 10, 0), 2 + 4, 0, 11, 3);
    }

    private static void ornaments() {
        check.says(15, "for each note left out, the cost of an ornament times its length");
        TuneCatalogue x = new TuneCatalogue();
        x.add(0, 8);
        x.note(0, 60, 8);
        x.note(0, 60, 8);
        x.note(0, 5, 8);
        x.note(0, 5, 8);
        x.setCosts(20, 20, 20);
        both("two of length 8 at 20", x, 320, 0, 5);
        x.setCosts(20, 1, 20);
        both("two of length 8 at 1", x, 16, 0, 5);
        x.correct(0, 2, 60, 1);
        both("8 and 1", x, 9, 0, 5);
        x.correct(0, 1, 60, 1);
        both("1 and 1", x, 2, 0, 5);
        both("those that are laid are free, of length 8, too", x, 2, 0, 5, 5);
        x.setCosts(20, 0, 20);
        both("at 0", x, 0, 0, 5);
    }

    private static void repeats() {
        check.says(15, "the cost of a repeat if it is the same as the pitch just ahead of it in the hum"
                + " (laid or left out), otherwise three times that");
        TuneCatalogue x = priced(20, 20, 1, 10, 12);
        both("the same as a laid one", x, 1, 10, 10, 12);
        both("another one", x, 3, 10, 11, 12);
        both("another one by 60", priced(20, 20, 1, 0, 2), 3, 0, 60, 2);
        both("the same as one left out", x, 4, 10, 11, 11, 12);
        both("the same twice", x, 2, 10, 10, 10, 12);
        both("the same, then another one", x, 4, 10, 10, 11, 12);
        both("two others", x, 6, 10, 9, 11, 12);
        both("the same as one further ahead", x, 6, 10, 11, 10, 12);
        both("the same as the one behind", x, 3, 10, 12, 12);
        both("the same as a later laid one", priced(20, 20, 1, 10, 12, 14), 1, 10, 12, 12, 14);
        x.setCosts(20, 20, 20);
        both("at 20", x, 20, 10, 10, 12);
        both("another one at 20", x, 60, 10, 11, 12);
        both("two others at 20", x, 120, 10, 9, 11, 12);
        x.setCosts(20, 20, 0);
        both("two others at 0", x, 0, 10, 9, 11, 12);
    }

    private static void cheapest() {
        check.says(15, "The cost of a tune is that of the cheapest match.");
        both("left out rather than a slip", priced(2, 3, 1, 10, 11, 20), 3, 10, 20);
        both("a slip rather than left out", priced(2, 20, 1, 10, 11, 20), 18, 10, 20);
        both("both the same", priced(2, 18, 1, 10, 11, 20), 18, 10, 20);
        both("a pitch left out rather than a slip", priced(2, 20, 1, 10, 20, 30), 1, 10, 10, 20);
        both("a slip rather than a pitch left out", priced(2, 20, 20, 10, 11, 21), 2, 10, 10, 20);
        both("two notes left out rather than one", priced(2, 3, 1, 10, 60, 60, 20), 6, 10, 20);
        both("dear at first, cheap on the whole", priced(2, 3, 1, 0, 5, 10, 40, 0), 3, 0, 10, 40, 0);
    }

    // ---- promises 15 and 16: which tunes, and how long a hum

    private static void costAndCostByAll() {
        costOfUnknownTune();
        eightPitches();
        dearestTrying();
    }

    private static void costOfUnknownTune() {
        TuneCatalogue x = Some.ofTunes(3);
        x.hum(5);
        x.retire(0);
        x.retire(2);
        check.says(15, "Throws IndexOutOfBoundsException if no such tune is known");
        for (int tune : Some.beyond(1, 1)) {
            check.throwsJust("cost of " + tune, Some.INDEX, () -> x.cost(tune));
        }
        check.same("the known one", x.cost(1), 0);
        check.says(16, "Throws IndexOutOfBoundsException if no such tune is known");
        for (int tune : Some.beyond(1, 1)) {
            check.throwsJust("costByAll of " + tune, Some.INDEX, () -> x.costByAll(tune));
        }
        check.same("the known one", x.costByAll(1), 0);
    }

    private static void eightPitches() {
        check.says(16, "Throws IllegalStateException if the hum has more than 8 pitches");
        TuneCatalogue x = Some.of(Some.rising(0, 1, 24), Some.row(1));
        check.same("none", x.costByAll(0), -1);
        for (int pitches = 1; pitches <= 8; pitches++) {
            x.hum(30);
            check.same(pitches + " pitches", x.costByAll(0), x.cost(0));
        }
        for (int pitches = 9; pitches <= 12; pitches++) {
            x.hum(30);
            check.throwsJust(pitches + " pitches", Some.STATE, () -> x.costByAll(0));
            check.throwsJust(pitches + " pitches, no match", Some.STATE, () -> x.costByAll(1));
        }
        check.says(16, "of several exceptions it is the first one of the throws clause");
        for (int tune : Some.beyond(0, 1)) {
            check.throwsJust("12 pitches, tune " + tune, Some.INDEX, () -> x.costByAll(tune));
        }
        x.retire(1);
        check.throwsJust("12 pitches, retired", Some.INDEX, () -> x.costByAll(1));
        x.hush();
        check.same("emptied", x.costByAll(0), -1);
    }

    private static void dearestTrying() {
        check.says(16, "told by trying all matches, of the full tune, too");
        TuneCatalogue x = new TuneCatalogue();
        for (int tune = 0; tune < 16; tune++) {
            Some.tune(x, Some.same(30, 24));
        }
        Some.hum(x, 0, 60, 0, 60, 0, 60, 0, 60);
        for (int tune = 0; tune < 16; tune++) {
            check.same("tune " + tune, x.costByAll(tune), x.cost(tune));
        }
    }

    // ---- promises 17 and 18

    private static void matchesAndFound() {
        howManyMatch();
        ranksOfNone();
        lastRank();
        risingCosts();
        sameCosts();
    }

    private static void howManyMatch() {
        check.says(17, "Returns how many tunes are known and have a match.");
        TuneCatalogue x = new TuneCatalogue();
        check.same("no tunes, an empty hum", x.matches(), 0);
        x.hum(30);
        check.same("no tunes", x.matches(), 0);
        for (int tunes = 1; tunes <= 16; tunes++) {
            x.add(30, 1);
            check.same("added", x.matches(), tunes);
        }
        for (int tune = 0; tune < 15; tune++) {
            x.note(tune, 30, 1);
        }
        x.hum(30);
        check.same("all but one, which has no match", x.matches(), 15);
        for (int tune = 0; tune < 15; tune++) {
            x.retire(tune);
            check.same("retired", x.matches(), 14 - tune);
        }
        x.hush();
        check.same("an empty hum", x.matches(), 0);
        x.hum(0);
        check.same("the one has a match again", x.matches(), 1);
    }

    private static void ranksOfNone() {
        check.says(18, "Throws IndexOutOfBoundsException if there are not so many with a match; none");
        for (int tunes : Some.row(0, 1, 16)) {
            TuneCatalogue x = Some.ofTunes(tunes);
            for (int rank : Some.beyond(0, -1)) {
                check.throwsJust("an empty hum, rank " + rank, Some.INDEX, () -> x.found(rank));
            }
            Some.hum(x, 1, 1);
            for (int rank : Some.beyond(0, -1)) {
                check.throwsJust("no match, rank " + rank, Some.INDEX, () -> x.found(rank));
            }
        }
    }

    private static void lastRank() {
        check.says(18, "rank: 0 for the first one;"
                + " throws IndexOutOfBoundsException if there are not so many with a match");
        TuneCatalogue x = new TuneCatalogue();
        x.hum(30);
        for (int tunes = 1; tunes <= 16; tunes++) {
            x.add(30, 1);
            check.same("the first one", x.found(0), 0);
            check.same("the last one", x.found(tunes - 1), tunes - 1);
            for (int rank : Some.beyond(0, tunes - 1)) {
                check.throwsJust("rank " + rank + " of " + tunes, Some.INDEX, () -> x.found(rank));
            }
        }
        for (int tune = 0; tune < 16; tune++) {
            x.retire(tune);
            int left = 15 - tune;
            check.throwsJust("rank " + left, Some.INDEX, () -> x.found(left));
            if (left > 0) {
                check.same("the first one that is left", x.found(0), tune + 1);
                check.same("the last one that is left", x.found(left - 1), 15);
            }
        }
    }

    private static void risingCosts() {
        check.says(18, "Tunes that are known and have a match are ranked by rising costs");
        TuneCatalogue x = new TuneCatalogue();
        for (int tune = 0; tune < 16; tune++) {
            Some.tune(x, 0, 20 + 15 - tune);
        }
        Some.hum(x, 0, 20);
        for (int rank = 0; rank < 16; rank++) {
            check.same("the lower the later, rank " + rank, x.found(rank), 15 - rank);
        }
        Some.hum(x, 0, 35);
        for (int rank = 0; rank < 16; rank++) {
            check.same("the lower the earlier, rank " + rank, x.found(rank), rank);
        }
        x.retire(0);
        check.same("without the retired one", x.found(0), 1);
        TuneCatalogue y = Some.of(Some.row(5), Some.row(60, 0), Some.row(5), Some.row(0, 60));
        y.setCosts(20, 0, 0);
        Some.hum(y, 0, 60);
        check.same("the cheapest", y.found(0), 3);
        check.same("the dearest there is, ahead of those without a match", y.found(1), 1);
        check.throwsJust("those without a match", Some.INDEX, () -> y.found(2));
    }

    private static void sameCosts() {
        check.says(18, "of the same cost by their numbers");
        TuneCatalogue x = new TuneCatalogue();
        for (int tune = 0; tune < 16; tune++) {
            Some.tune(x, 30, 30 + tune % 2);
        }
        Some.hum(x, 0, 1);
        for (int rank = 0; rank < 16; rank++) {
            check.same("odd ones first, rank " + rank, x.found(rank), rank < 8 ? 2 * rank + 1 : 2 * (rank - 8));
        }
        x.setCosts(0, 0, 0);
        for (int rank = 0; rank < 16; rank++) {
            check.same("all the same, rank " + rank, x.found(rank), rank);
        }
    }

    // ---- promise 19

    private static void likeContour() {
        fewerThanTwoPitches();
        asASet();
        upDownStays();
        shorterThanTheHum();
        asLongAsTheTune();
    }

    private static void fewerThanTwoPitches() {
        check.says(19, "a hum with fewer than 2 pitches is the beginning of each");
        TuneCatalogue x = Some.of(Some.row(30), Some.row(30, 31), Some.rising(0, 1, 24), Some.row(30));
        x.retire(3);
        check.same("an empty hum", x.likeContour(), 7);
        x.hum(60);
        check.same("one pitch", x.likeContour(), 7);
        x.hum(60);
        check.same("two pitches", x.likeContour(), 0);
    }

    private static void asASet() {
        check.says(19, "Returns the known tunes [..] as a set: 1 for tune 0, 2 for 1, 4 for 2, and so on, added up.");
        TuneCatalogue x = new TuneCatalogue();
        check.same("no tunes", x.likeContour(), 0);
        int due = 0;
        int one = 1;
        for (int tune = 0; tune < 16; tune++) {
            x.add(30, 1);
            due += one;
            one *= 2;
            check.same("added", x.likeContour(), due);
        }
        check.same("all sixteen", x.likeContour(), 65535);
        x.note(0, 31, 1);
        x.note(15, 31, 1);
        Some.hum(x, 30, 31);
        check.same("the first one and the last one", x.likeContour(), 32769);
        x.retire(0);
        check.same("the last one", x.likeContour(), 32768);
        x.retire(15);
        check.same("none", x.likeContour(), 0);
        x.hush();
        check.same("the known ones", x.likeContour(), 32766);
        for (int tune = 1; tune < 15; tune++) {
            x.retire(tune);
        }
        check.same("all retired", x.likeContour(), 0);
    }

    private static void shorterThanTheHum() {
        check.says(19, "whose contour begins with that of the hum; a shorter one does not");
        TuneCatalogue x = Some.of(Some.row(0), Some.row(30), Some.row(60), Some.row(0, 0), Some.row(0, 60),
                Some.row(60, 0));
        for (int[] two : new int[][] {{30, 60}, {30, 30}, {30, 0}, {60, 0}, {0, 0}}) {
            Some.hum(x, two);
            int due = two[0] < two[1] ? 16 : two[0] == two[1] ? 8 : 32;
            check.same("two notes and one", x.likeContour(), due);
            for (int pitch : Some.row(0, two[1], 60)) {
                Some.hum(x, two[0], two[1], pitch);
                check.same("none of three notes", x.likeContour(), 0);
            }
        }
    }

    private static void upDownStays() {
        check.says(19, "The contour tells of each step whether it goes up, down, or stays");
        TuneCatalogue x = Some.of(Some.row(0, 60), Some.row(30, 31), Some.row(30, 30), Some.row(31, 30),
                Some.row(60, 0));
        for (int[] up : new int[][] {{0, 60}, {59, 60}, {0, 1}}) {
            Some.hum(x, up);
            check.same("up", x.likeContour(), 3);
        }
        for (int[] down : new int[][] {{60, 0}, {60, 59}, {1, 0}}) {
            Some.hum(x, down);
            check.same("down", x.likeContour(), 24);
        }
        for (int pitch : Some.row(0, 30, 60)) {
            Some.hum(x, pitch, pitch);
            check.same("stays", x.likeContour(), 4);
        }
    }

    private static void asLongAsTheTune() {
        check.says(19, "whose contour begins with that of the hum");
        TuneCatalogue x = Some.of(Some.rising(0, 1, 24), Some.rising(0, 2, 12), Some.rising(0, 3, 11),
                Some.rising(0, 1, 13));
        for (int pitches = 0; pitches <= 12; pitches++) {
            Some.hum(x, Some.rising(0, 5, pitches));
            check.same(pitches + " pitches", x.likeContour(), pitches <= 11 ? 15 : 11);
        }
        x.correct(0, 11, 0, 1);
        check.same("the last step of the hum", x.likeContour(), 10);
        x.correct(3, 12, 0, 1);
        check.same("a step behind the hum", x.likeContour(), 10);
        x.correct(1, 1, 0, 1);
        check.same("the first step", x.likeContour(), 8);
        x.note(2, 60, 1);
        check.same("a new note", x.likeContour(), 12);
    }
}
