/** Promises 11 to 19: the hum, costs, ranks, and contours. */
public final class HumTest {
    private static final Check check = new Check();

    public static void main(String[] args) {
        hum();
        setCosts();
        slips();
        ornaments();
        repeats();
        bounds();
        costByAll();
        wrongTunes();
        ranks();
        likeContour();
        check.end("HumTest");
    }

    private static void both(String what, TuneCatalogue x, int tune, int due) {
        check.same("15: " + what, x.cost(tune), due);
        check.same("16: " + what, x.costByAll(tune), due);
    }

    private static void hum() {
        TuneCatalogue x = new TuneCatalogue();
        check.same("12: none", x.hush(), 0);
        check.same("11: lowest", x.hum(0), 1);
        check.same("11: highest", x.hum(60), 2);
        for (int pitch : Some.row(-1, 61, Integer.MIN_VALUE, Integer.MAX_VALUE)) {
            check.throwsJust("11: pitch " + pitch, Some.ARGUMENT, () -> x.hum(pitch));
        }
        check.same("13: two", x.hummed(), 2);
        for (int pitches = 3; pitches <= 12; pitches++) {
            check.same("11: pitches", x.hum(30), pitches);
        }
        check.throwsJust("11: 13th", Some.STATE, () -> x.hum(30));
        check.throwsJust("11: 13th, wrong pitch first", Some.ARGUMENT, () -> x.hum(61));
        check.same("13: twelve", x.hummed(), 12);
        check.same("12: twelve", x.hush(), 12);
        check.same("13: none", x.hummed(), 0);
        check.same("12: none again", x.hush(), 0);
        check.same("11: one again", x.hum(7), 1);
    }

    private static void setCosts() {
        TuneCatalogue x = Some.of(Some.row(10, 20, 40));
        Some.hum(x, 10, 40);
        check.same("14: 3 for an ornament at first", x.cost(0), 3);
        for (int cost : Some.row(-1, 21, Integer.MIN_VALUE, Integer.MAX_VALUE)) {
            check.throwsJust("14: slip " + cost, Some.ARGUMENT, () -> Some.priced(x, cost, 0, 0));
            check.throwsJust("14: ornament " + cost, Some.ARGUMENT, () -> Some.priced(x, 0, cost, 0));
            check.throwsJust("14: repeat " + cost, Some.ARGUMENT, () -> Some.priced(x, 0, 0, cost));
        }
        check.same("14: nothing has changed", x.cost(0), 3);
        x.setCosts(20, 20, 20);
        check.same("14: the dearest", x.cost(0), 20);
        x.setCosts(0, 0, 0);
        check.same("14: the cheapest", x.cost(0), 0);
        TuneCatalogue other = Some.of(Some.row(10, 20, 40));
        Some.hum(other, 10, 40);
        check.same("14: objects share no costs", other.cost(0), 3);
    }

    private static void slips() {
        TuneCatalogue x = Some.of(Some.row(10, 20));
        both("empty hum", x, 0, -1);
        Some.hum(x, 50);
        both("one pitch", x, 0, 0);
        Some.hum(x, 50, 60);
        both("shifted", x, 0, 0);
        Some.hum(x, 50, 57);
        both("3 too low, at 2", x, 0, 6);
        Some.hum(x, 20, 32);
        both("2 too high, at 2", x, 0, 4);
        Some.hum(x, 20, 18);
        both("the other way", x, 0, 24);
        x.setCosts(20, 3, 1);
        both("slips at 20", x, 0, 240);
        Some.hum(x, 20, 30, 30);
        both("no note is left for the first 30", x, 0, 3);
        TuneCatalogue y = Some.of(Some.row(0, 60));
        y.setCosts(20, 20, 20);
        Some.hum(y, 60, 0);
        both("the widest slip", y, 0, 2400);
    }

    private static void ornaments() {
        TuneCatalogue x = new TuneCatalogue();
        x.add(10, 8);
        x.note(0, 40, 2);
        x.note(0, 5, 5);
        x.note(0, 12, 8);
        x.setCosts(20, 1, 20);
        Some.hum(x, 10, 12);
        both("two notes left out, by their lengths", x, 0, 7);
        x.setCosts(20, 2, 20);
        both("ornaments at 2", x, 0, 14);
        x.note(0, 30, 1);
        Some.hum(x, 10, 12, 30);
        both("what follows is laid from there", x, 0, 14);
        TuneCatalogue y = Some.of(Some.row(10, 40, 41, 42, 12));
        y.setCosts(20, 0, 20);
        Some.hum(y, 10, 12);
        both("three notes are too many", y, 0, 20 * 28);
        TuneCatalogue z = Some.of(Some.row(40, 10, 12));
        z.setCosts(1, 0, 0);
        Some.hum(z, 10, 12);
        both("the first note is always laid", z, 0, 30);
    }

    private static void repeats() {
        TuneCatalogue x = Some.of(Some.row(10, 12));
        Some.hum(x, 10, 10, 10, 12);
        both("two repeats left out", x, 0, 2);
        x.setCosts(20, 20, 5);
        both("repeats at 5", x, 0, 10);
        Some.hum(x, 10, 11, 11, 12);
        both("the second repeats one that is left out", x, 0, 20);
        Some.hum(x, 10, 11, 12, 12);
        both("the same as the next one is no repeat", x, 0, 30);
        Some.hum(x, 10, 30, 10, 12);
        both("the same as one further ahead is no repeat", x, 0, 30);
        Some.hum(x, 10, 10, 10, 10, 12);
        both("three pitches are too many", x, 0, -1);
        Some.hum(x, 10, 12, 30);
        both("the last pitch is laid", x, 0, 20 * 18 + 15);
        Some.hum(x, 40, 10, 12);
        both("the first pitch is laid", x, 0, 20 * 30 + 15);
    }

    private static void bounds() {
        TuneCatalogue x = Some.of(Some.row(10, 50, 12));
        x.setCosts(20, 0, 0);
        Some.hum(x, 10, 30, 12);
        // Free of cost if both a note and a pitch could be left out at once.
        both("not both at once", x, 0, 20 * 38);
        TuneCatalogue w = Some.of(Some.row(10, 40, 12, 14));
        Some.hum(w, 10, 12, 12, 14);
        both("a note, and behind it a pitch", w, 0, 3 + 1);
        Some.hum(w, 10, 10, 40, 14);
        both("a pitch, and behind it a note", w, 0, 1 + 3);
        TuneCatalogue y = Some.of(Some.row(10, 12));
        Some.hum(y, 10, 12, 14, 16, 18, 20, 22);
        both("more pitches than notes", y, 0, -1);
        TuneCatalogue z = new TuneCatalogue();
        z.add(0, 1);
        for (int note = 1; note < 24; note++) {
            z.note(0, note, 1);
        }
        Some.hum(z, 0, 1, 2, 3, 4, 5, 6, 7, 8, 9, 10, 11);
        check.same("15: twelve pitches, 24 notes", z.cost(0), 0);
        z.setCosts(20, 0, 0);
        Some.hum(z, 0, 3, 6, 9, 12, 15, 18, 21, 21, 21, 21, 22);
        check.same("15: left out here and there", z.cost(0), 20 * 1);
    }

    private static void costByAll() {
        TuneCatalogue x = Some.of(Some.row(1, 2, 3, 4, 5, 6, 7, 8, 9), Some.row(1));
        Some.hum(x, 1, 2, 3, 4, 5, 6, 7, 9);
        both("eight pitches", x, 0, 2);
        x.hum(10);
        check.same("15: nine pitches", x.cost(0), 2);
        check.throwsJust("16: nine pitches", Some.STATE, () -> x.costByAll(0));
        check.throwsJust("16: nine pitches, no such tune", Some.INDEX, () -> x.costByAll(2));
    }

    private static void wrongTunes() {
        TuneCatalogue x = Some.of(Some.row(1, 2), Some.row(3, 4));
        x.hum(3);
        x.retire(0);
        for (int tune : Some.row(-1, 0, 2, 16, Integer.MIN_VALUE, Integer.MAX_VALUE)) {
            check.throwsJust("15: tune " + tune, Some.INDEX, () -> x.cost(tune));
            check.throwsJust("16: tune " + tune, Some.INDEX, () -> x.costByAll(tune));
        }
        both("a known one", x, 1, 0);
    }

    private static void ranks() {
        TuneCatalogue x = Some.of(Some.row(10, 15), Some.row(20, 22), Some.row(30), Some.row(30, 33),
                Some.row(40, 42));
        check.same("17: empty hum", x.matches(), 0);
        check.throwsJust("18: empty hum", Some.INDEX, () -> x.found(0));
        Some.hum(x, 5, 7);
        check.same("17: all but one", x.matches(), 4);
        int[] ranked = Some.row(1, 4, 3, 0);
        for (int rank = 0; rank < ranked.length; rank++) {
            check.same("18: rank " + rank, x.found(rank), ranked[rank]);
        }
        for (int rank : Some.row(-1, 4, 5, Integer.MIN_VALUE, Integer.MAX_VALUE)) {
            check.throwsJust("18: rank " + rank, Some.INDEX, () -> x.found(rank));
        }
        x.retire(1);
        check.same("17: without the retired one", x.matches(), 3);
        check.same("18: without the retired one", x.found(0), 4);
        x.setCosts(0, 0, 0);
        check.same("18: of the same cost the lowest", x.found(0) + 10 * x.found(1) + 100 * x.found(2), 430);
        x.note(2, 31, 1);
        check.same("18: a new note", x.found(1), 2);
        for (int tune = 5; tune < 16; tune++) {
            x.add(20, 1);
            x.note(tune, 22, 1);
        }
        check.same("17: many", x.matches(), 15);
        check.same("18: the last of many", x.found(14), 15);
    }

    private static void likeContour() {
        TuneCatalogue x = Some.of(Some.row(10, 15, 15, 2), Some.row(10, 11, 11, 10, 60), Some.row(10, 11),
                Some.row(10), Some.row(20, 15, 15, 2));
        check.same("19: empty hum", x.likeContour(), 31);
        Some.hum(x, 30);
        check.same("19: one pitch", x.likeContour(), 31);
        x.hum(31);
        check.same("19: up", x.likeContour(), 7);
        x.hum(31);
        check.same("19: up, stays", x.likeContour(), 3);
        x.hum(0);
        check.same("19: up, stays, down", x.likeContour(), 3);
        x.hum(1);
        check.same("19: up, stays, down, up", x.likeContour(), 2);
        x.hum(1);
        check.same("19: none is so long", x.likeContour(), 0);
        Some.hum(x, 0, 5);
        check.same("19: the first pitch tells nothing", x.likeContour(), 7);
        Some.hum(x, 9, 8);
        check.same("19: down", x.likeContour(), 16);
        x.retire(4);
        check.same("19: retired", x.likeContour(), 0);
        TuneCatalogue y = Some.of(Some.row(20, 22), Some.row(20, 20), Some.row(20, 18));
        Some.hum(y, 5, 6);
        check.same("19: up alone", y.likeContour(), 1);
        Some.hum(y, 5, 5);
        check.same("19: stays alone", y.likeContour(), 2);
        Some.hum(y, 5, 4);
        check.same("19: down alone", y.likeContour(), 4);
        for (int tune = 5; tune < 16; tune++) {
            x.add(9, 1);
        }
        x.note(15, 1, 1);
        check.same("19: the sixteenth tune", x.likeContour(), 32768);
    }
}
