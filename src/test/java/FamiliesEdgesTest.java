/** Promises 22 to 25, and the terms that they rest on: a test for each sentence that names a boundary. */
public final class FamiliesEdgesTest {
    private static final Check check = new Check();

    public static void main(String[] args) {
        linkOfNoTune();
        linkOfTheSame();
        linkedAlready();
        linkThrowsTheFirst();
        familiesByLinking();
        everyLink();
        cutOfNoTune();
        notLinked();
        cutThrowsTheFirst();
        thereUntilCut();
        familiesByCutting();
        familyOfNoTune();
        lowestOfFamily();
        longestChain();
        retiredOnes();
        howManyFamilies();
        check.end("FamiliesEdgesTest");
    }

    private static void linkOfNoTune() {
        check.says(22, "Throws IndexOutOfBoundsException if there never was such a tune one, or such an other one");
        for (int tunes : Some.row(0, 1, 2, 16)) {
            TuneCatalogue x = Some.ofTunes(tunes);
            for (int tune : Some.beyond(0, tunes - 1)) {
                check.throwsJust("one " + tune + " of " + tunes, Some.INDEX, () -> x.link(tune, 0));
                check.throwsJust("other " + tune + " of " + tunes, Some.INDEX, () -> x.link(0, tune));
                check.throwsJust("both " + tune + " of " + tunes, Some.INDEX, () -> x.link(tune, tune));
                check.throwsJust("both, unlike, of " + tunes, Some.INDEX, () -> x.link(tune, ~tune));
            }
            check.same("families", x.families(), tunes);
        }
        check.same("the first one and the last one", Some.ofTunes(16).link(0, 15), 15);
        check.same("the last one and the first one", Some.ofTunes(16).link(15, 0), 15);
    }

    private static void linkOfTheSame() {
        check.says(22, "Links join two unlike tunes each; throws IllegalArgumentException if both are the same");
        TuneCatalogue x = Some.ofTunes(16);
        x.retire(7);
        for (int tune = 0; tune < 16; tune++) {
            int both = tune;
            check.throwsJust("both " + tune, Some.ARGUMENT, () -> x.link(both, both));
            check.throwsJust("there is none to cut of " + tune, Some.STATE, () -> x.cut(both, both));
        }
        check.same("families", x.families(), 16);
    }

    private static void linkedAlready() {
        check.says(22, "Throws IllegalStateException if there is a link of both");
        TuneCatalogue x = Some.ofTunes(3);
        x.link(0, 1);
        for (int again = 0; again < 3; again++) {
            check.throwsJust("once more", Some.STATE, () -> x.link(0, 1));
            check.same("families", x.families(), 2);
            check.throwsJust("the other way", Some.STATE, () -> x.link(1, 0));
            check.same("families", x.families(), 2);
        }
        x.retire(0);
        check.throwsJust("one is retired", Some.STATE, () -> x.link(0, 1));
        check.same("it is but one link", x.cut(0, 1), 3);
        check.throwsJust("and it is cut", Some.STATE, () -> x.cut(0, 1));
        check.same("linked again", x.link(1, 0), 2);
        check.same("one family, but no link", x.link(2, 1), 1);
        check.same("a link more in it", x.link(2, 0), 1);
        check.throwsJust("a link of a ring", Some.STATE, () -> x.link(0, 2));
    }

    private static void linkThrowsTheFirst() {
        check.says(22, "of several exceptions it is the first one of the throws clause");
        TuneCatalogue x = Some.ofTunes(2);
        x.link(0, 1);
        check.throwsJust("no tunes, the same", Some.INDEX, () -> x.link(2, 2));
        check.throwsJust("no tunes below, the same", Some.INDEX, () -> x.link(-1, -1));
        check.throwsJust("the same, linked with another one", Some.ARGUMENT, () -> x.link(1, 1));
        check.throwsJust("linked", Some.STATE, () -> x.link(1, 0));
    }

    private static void familiesByLinking() {
        check.says(22, "Returns how many families there are then.");
        TuneCatalogue x = Some.ofTunes(16);
        for (int tune = 1; tune < 16; tune++) {
            check.same("one less", x.link(tune - 1, tune), 16 - tune);
        }
        check.same("never less than one", x.link(15, 0), 1);
        check.same("families", x.families(), 1);
    }

    private static void everyLink() {
        check.says(22, "Links two tunes. Each two of 16 may be linked at once");
        TuneCatalogue x = Some.ofTunes(16);
        for (int one = 0; one < 16; one++) {
            for (int other = 0; other < one; other++) {
                x.link(one, other);
            }
        }
        check.same("families", x.families(), 1);
        for (int one = 15; one >= 0; one--) {
            check.same("still in the family", x.family(one), 0);
            for (int other = 0; other < one; other++) {
                x.cut(other, one);
            }
            check.same("cut off", x.family(one), one);
        }
        check.same("families, all cut", x.families(), 16);
    }

    private static void cutOfNoTune() {
        check.says(23, "Throws IndexOutOfBoundsException if there never was such a tune one, or such an other one");
        for (int tunes : Some.row(0, 1, 2, 16)) {
            TuneCatalogue x = Some.ofTunes(tunes);
            for (int tune : Some.beyond(0, tunes - 1)) {
                check.throwsJust("one " + tune + " of " + tunes, Some.INDEX, () -> x.cut(tune, 0));
                check.throwsJust("other " + tune + " of " + tunes, Some.INDEX, () -> x.cut(0, tune));
                check.throwsJust("both " + tune + " of " + tunes, Some.INDEX, () -> x.cut(tune, tune));
            }
        }
        TuneCatalogue x = Some.ofTunes(16);
        x.link(0, 15);
        check.same("the last one and the first one", x.cut(15, 0), 16);
    }

    private static void notLinked() {
        check.says(23, "Throws IllegalStateException if there is no link of both");
        TuneCatalogue x = Some.ofTunes(4);
        check.throwsJust("no link at all", Some.STATE, () -> x.cut(0, 1));
        x.link(0, 1);
        x.link(1, 2);
        for (int again = 0; again < 3; again++) {
            check.throwsJust("of one family, but not linked", Some.STATE, () -> x.cut(0, 2));
            check.throwsJust("of two families", Some.STATE, () -> x.cut(3, 0));
            check.throwsJust("the same", Some.STATE, () -> x.cut(1, 1));
            check.same("families", x.families(), 2);
        }
        x.cut(1, 0);
        check.throwsJust("cut already", Some.STATE, () -> x.cut(1, 0));
        check.throwsJust("cut already, the other way", Some.STATE, () -> x.cut(0, 1));
        check.same("families", x.families(), 3);
    }

    private static void cutThrowsTheFirst() {
        check.says(23, "of several exceptions it is the first one of the throws clause");
        TuneCatalogue x = Some.ofTunes(2);
        check.throwsJust("no tune, no link", Some.INDEX, () -> x.cut(0, 2));
        check.throwsJust("no other tune, no link", Some.INDEX, () -> x.cut(-1, 1));
        check.throwsJust("no link", Some.STATE, () -> x.cut(0, 1));
    }

    private static void thereUntilCut() {
        check.says(23, "a link is there until it is cut");
        TuneCatalogue x = Some.ofTunes(3);
        x.link(0, 2);
        x.correct(0, 0, 60, 1);
        x.shift(2, 1);
        x.note(2, 30, 1);
        x.retire(0);
        x.retire(2);
        x.add(30, 1);
        x.link(1, 2);
        check.same("families", x.families(), 2);
        check.same("family", x.family(2), 0);
        check.throwsJust("it is there", Some.STATE, () -> x.link(2, 0));
        check.same("cut", x.cut(2, 0), 3);
        check.same("the other one is there", x.family(2), 1);
    }

    private static void familiesByCutting() {
        check.says(23, "Returns how many families there are then.");
        TuneCatalogue x = Some.ofTunes(16);
        for (int tune = 1; tune < 16; tune++) {
            x.link(tune - 1, tune);
        }
        x.link(15, 0);
        check.same("one link of the ring", x.cut(7, 8), 1);
        for (int tune = 1; tune < 16; tune++) {
            if (tune != 8) {
                check.same("one more", x.cut(tune, tune - 1), tune < 8 ? tune + 1 : tune);
            }
        }
        check.same("the last link", x.cut(0, 15), 16);
    }

    private static void familyOfNoTune() {
        check.says(24, "Throws IndexOutOfBoundsException if there never was such a tune");
        for (int tunes : Some.row(0, 1, 2, 16)) {
            TuneCatalogue x = Some.ofTunes(tunes);
            for (int tune : Some.beyond(0, tunes - 1)) {
                check.throwsJust("family of " + tune, Some.INDEX, () -> x.family(tune));
            }
            for (int tune = 0; tune < tunes; tune++) {
                check.same("without a link", x.family(tune), tune);
            }
        }
    }

    private static void lowestOfFamily() {
        check.says(24, "Returns the lowest tune of the family of a tune.");
        TuneCatalogue x = Some.ofTunes(16);
        x.link(15, 14);
        check.same("the last two", x.family(15), 14);
        check.same("the lowest itself", x.family(14), 14);
        x.link(15, 0);
        check.same("the first one by two links", x.family(14), 0);
        check.same("the first one itself", x.family(0), 0);
        check.same("one beside them", x.family(1), 1);
        x.cut(0, 15);
        check.same("cut off", x.family(14) + 100 * x.family(0), 14);
    }

    private static void longestChain() {
        check.says(24, "Tunes are in the same family if a chain of links leads from the one to the other");
        int[][] orders = {
            Some.rising(0, 1, 16),
            Some.rising(15, -1, 16),
            Some.row(8, 0, 15, 7, 9, 1, 14, 6, 10, 2, 13, 5, 11, 3, 12, 4),
            Some.row(0, 15, 1, 14, 2, 13, 3, 12, 4, 11, 5, 10, 6, 9, 7, 8),
        };
        for (int[] order : orders) {
            for (int torn = 1; torn < 16; torn++) {
                TuneCatalogue x = Some.ofTunes(16);
                for (int i = 1; i < 16; i++) {
                    x.link(order[i], order[i - 1]);
                }
                for (int tune = 0; tune < 16; tune++) {
                    check.same("over up to fifteen links", x.family(tune), 0);
                }
                check.same("torn in two", x.cut(order[torn], order[torn - 1]), 2);
                int lowestAhead = 16;
                int lowestBehind = 16;
                for (int i = 0; i < 16; i++) {
                    lowestAhead = i < torn ? Math.min(lowestAhead, order[i]) : lowestAhead;
                    lowestBehind = i < torn ? lowestBehind : Math.min(lowestBehind, order[i]);
                }
                for (int i = 0; i < 16; i++) {
                    check.same("either end", x.family(order[i]), i < torn ? lowestAhead : lowestBehind);
                }
            }
        }
    }

    private static void retiredOnes() {
        check.says(24, "retired ones included");
        TuneCatalogue x = Some.ofTunes(5);
        x.link(0, 1);
        x.link(1, 2);
        x.retire(1);
        check.same("over a retired one", x.family(2), 0);
        x.retire(0);
        check.same("a retired one is the lowest", x.family(2), 0);
        check.same("of a retired one", x.family(1), 0);
        x.retire(2);
        check.same("all of it retired", x.family(2), 0);
        check.same("two retired ones are cut", x.cut(0, 1), 4);
        check.same("and linked", x.link(0, 2), 3);
        x.retire(4);
        check.same("a retired one with a known one", x.link(3, 4), 2);
        check.same("a retired one without links", Some.ofTunes(1).retire(0), 0);
    }

    private static void howManyFamilies() {
        check.says(25, "Returns how many families there are.");
        TuneCatalogue x = new TuneCatalogue();
        check.same("no tunes", x.families(), 0);
        for (int tunes = 1; tunes <= 16; tunes++) {
            x.add(30, 1);
            check.same("each its own", x.families(), tunes);
        }
        check.throwsJust("the seventeenth", Some.STATE, () -> x.add(30, 1));
        check.same("still so many", x.families(), 16);
        for (int tune = 0; tune < 16; tune++) {
            x.retire(tune);
            check.same("retired ones included", x.families(), 16);
        }
        x.link(3, 4);
        check.same("linked", x.families(), 15);
        x.cut(4, 3);
        check.same("cut", x.families(), 16);
    }
}
