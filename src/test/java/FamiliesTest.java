/** Promises 22 to 25: links that are made and cut, and families. */
public final class FamiliesTest {
    private static final Check check = new Check();

    public static void main(String[] args) {
        linkAndCut();
        detours();
        longChain();
        retired();
        wrongLinks();
        wrongCuts();
        wrongFamilies();
        check.end("FamiliesTest");
    }

    private static void linkAndCut() {
        TuneCatalogue x = Some.ofTunes(5);
        check.same("25: each its own", x.families(), 5);
        check.same("24: its own", x.family(4), 4);
        check.same("22: two", x.link(4, 2), 4);
        check.same("24: the lower one", x.family(4), 2);
        check.same("24: the lower one's", x.family(2), 2);
        check.same("22: three", x.link(3, 4), 3);
        check.same("24: by a chain", x.family(3), 2);
        check.same("22: four", x.link(3, 1), 2);
        check.same("24: lower still", x.family(2), 1);
        check.same("25: two", x.families(), 2);
        check.same("23: in two", x.cut(4, 3), 3);
        check.same("24: the part that is cut off", x.family(4), 2);
        check.same("24: the other part", x.family(3), 1);
        check.same("22: linked again", x.link(4, 3), 2);
        x.add(9, 1);
        check.same("25: a new tune is a new family", x.families(), 3);
        check.same("24: a new tune", x.family(5), 5);
    }

    private static void detours() {
        TuneCatalogue x = Some.ofTunes(3);
        x.link(0, 1);
        x.link(1, 2);
        check.same("22: a ring", x.link(2, 0), 1);
        check.same("23: still by the detour", x.cut(1, 0), 1);
        check.same("24: still by the detour", x.family(1), 0);
        check.same("23: apart", x.cut(0, 2), 2);
        check.same("24: apart", x.family(2), 1);
    }

    private static void longChain() {
        TuneCatalogue x = Some.ofTunes(16);
        for (int tune = 1; tune < 15; tune++) {
            x.link(tune, tune + 1);
        }
        check.same("25: one apart", x.families(), 2);
        check.same("22: all in one", x.link(15, 0), 1);
        check.same("24: over fifteen links", x.family(1), 0);
        check.same("23: the chain is torn", x.cut(8, 7), 2);
        check.same("24: the one end", x.family(7), 1);
        check.same("24: the other end", x.family(8), 0);
    }

    private static void retired() {
        TuneCatalogue x = Some.ofTunes(4);
        x.link(0, 1);
        x.link(1, 2);
        x.retire(1);
        check.same("25: retired ones, too", x.families(), 2);
        check.same("24: over a retired one", x.family(2), 0);
        x.retire(0);
        check.same("24: a retired one is the lowest", x.family(2), 0);
        check.same("24: of a retired one", x.family(1), 0);
        check.same("22: with a retired one", x.link(3, 0), 1);
        check.same("23: with a retired one", x.cut(0, 1), 2);
    }

    private static void wrongLinks() {
        TuneCatalogue x = Some.ofTunes(3);
        x.link(0, 1);
        for (int tune : Some.row(-1, 3, 16, 32, Integer.MIN_VALUE, Integer.MAX_VALUE)) {
            check.throwsJust("22: one " + tune, Some.INDEX, () -> x.link(tune, 1));
            check.throwsJust("22: other " + tune, Some.INDEX, () -> x.link(0, tune));
            check.throwsJust("22: both " + tune, Some.INDEX, () -> x.link(tune, tune));
        }
        check.throwsJust("22: the same", Some.ARGUMENT, () -> x.link(1, 1));
        check.throwsJust("22: linked", Some.STATE, () -> x.link(0, 1));
        check.throwsJust("22: linked the other way", Some.STATE, () -> x.link(1, 0));
        check.same("22: nothing has changed", x.families(), 2);
        x.link(1, 2);
        check.same("22: of one family, but not linked", x.link(0, 2), 1);
    }

    private static void wrongCuts() {
        TuneCatalogue x = Some.ofTunes(3);
        x.link(0, 1);
        x.link(1, 2);
        for (int tune : Some.row(-1, 3, 16, 32, Integer.MIN_VALUE, Integer.MAX_VALUE)) {
            check.throwsJust("23: one " + tune, Some.INDEX, () -> x.cut(tune, 1));
            check.throwsJust("23: other " + tune, Some.INDEX, () -> x.cut(0, tune));
        }
        check.throwsJust("23: of one family, but not linked", Some.STATE, () -> x.cut(0, 2));
        check.throwsJust("23: the same", Some.STATE, () -> x.cut(1, 1));
        check.same("23: nothing has changed", x.families(), 1);
        x.cut(1, 0);
        check.throwsJust("23: cut already", Some.STATE, () -> x.cut(0, 1));
        check.same("23: but once", x.families(), 2);
    }

    private static void wrongFamilies() {
        TuneCatalogue x = Some.ofTunes(2);
        for (int tune : Some.row(-1, 2, 16, Integer.MIN_VALUE, Integer.MAX_VALUE)) {
            check.throwsJust("24: tune " + tune, Some.INDEX, () -> x.family(tune));
        }
    }
}
