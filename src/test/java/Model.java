import java.util.ArrayList;
import java.util.Collections;
import java.util.HashMap;
import java.util.HashSet;
import java.util.List;
import java.util.Map;
import java.util.Set;

/**
 * The document's words once more, in other ways than the program's: matches are
 * listed as wholes and priced behindhand, families are merged from the list of
 * links. It knows no ranges of arguments: Run asks those.
 */
final class Model {
    static final class Note {
        int pitch;
        int length;

        Note(int pitch, int length) {
            this.pitch = pitch;
            this.length = length;
        }
    }

    final List<List<Note>> tunes = new ArrayList<>();
    final Set<Integer> retired = new HashSet<>();
    final List<Integer> hum = new ArrayList<>();
    final Set<String> links = new HashSet<>();
    int slip = 2;
    int ornament = 3;
    int repeat = 1;

    boolean isEntered(int tune) {
        return tune >= 0 && tune < tunes.size();
    }

    boolean isKnown(int tune) {
        return isEntered(tune) && !retired.contains(tune);
    }

    int countKnown() {
        return tunes.size() - retired.size();
    }

    List<Integer> stepsOf(int tune) {
        List<Integer> pitches = new ArrayList<>();
        for (Note note : tunes.get(tune)) {
            pitches.add(note.pitch);
        }
        return steps(pitches);
    }

    List<Integer> humSteps() {
        return steps(hum);
    }

    private static List<Integer> steps(List<Integer> pitches) {
        List<Integer> steps = new ArrayList<>();
        for (int i = 1; i < pitches.size(); i++) {
            steps.add(pitches.get(i) - pitches.get(i - 1));
        }
        return steps;
    }

    int shared(int one, int other) {
        List<Integer> first = stepsOf(one);
        List<Integer> second = stepsOf(other);
        for (int length = Math.min(first.size(), second.size()); length > 0; length--) {
            for (int from = 0; from + length <= first.size(); from++) {
                if (Collections.indexOfSubList(second, first.subList(from, from + length)) >= 0) {
                    return length;
                }
            }
        }
        return 0;
    }

    /** Lists every match for short hums; for long ones it goes on from shared endings. */
    int cost(int tune) {
        if (hum.isEmpty()) {
            return -1;
        }
        if (hum.size() <= 6) {
            List<int[]> laid = new ArrayList<>();
            laid.add(new int[] {0, 0});
            return cheapestListed(tunes.get(tune), laid);
        }
        long cheapest = cheapestFrom(tunes.get(tune), 0, 0, new HashMap<>());
        return cheapest > Integer.MAX_VALUE ? -1 : (int) cheapest;
    }

    private int cheapestListed(List<Note> tune, List<int[]> laid) {
        int[] last = laid.get(laid.size() - 1);
        if (last[0] == hum.size() - 1) {
            int sum = 0;
            for (int i = 1; i < laid.size(); i++) {
                sum += price(tune, laid.get(i - 1), laid.get(i));
            }
            return sum;
        }
        int cheapest = -1;
        for (int pitch = last[0] + 1; pitch < hum.size(); pitch++) {
            for (int note = last[1] + 1; note < tune.size(); note++) {
                int[] next = {pitch, note};
                if (mayFollow(last, next)) {
                    laid.add(next);
                    int cost = cheapestListed(tune, laid);
                    laid.remove(laid.size() - 1);
                    if (cost >= 0 && (cheapest < 0 || cost < cheapest)) {
                        cheapest = cost;
                    }
                }
            }
        }
        return cheapest;
    }

    private long cheapestFrom(List<Note> tune, int pitch, int note, Map<Integer, Long> known) {
        if (pitch == hum.size() - 1) {
            return 0;
        }
        int key = 100 * pitch + note;
        if (known.containsKey(key)) {
            return known.get(key);
        }
        long cheapest = Long.MAX_VALUE / 2;
        int[] here = {pitch, note};
        for (int nextPitch = pitch + 1; nextPitch < hum.size(); nextPitch++) {
            for (int nextNote = note + 1; nextNote < tune.size(); nextNote++) {
                int[] next = {nextPitch, nextNote};
                if (mayFollow(here, next)) {
                    cheapest = Math.min(cheapest,
                            price(tune, here, next) + cheapestFrom(tune, nextPitch, nextNote, known));
                }
            }
        }
        known.put(key, cheapest);
        return cheapest;
    }

    private static boolean mayFollow(int[] one, int[] next) {
        int pitchesOut = next[0] - one[0] - 1;
        int notesOut = next[1] - one[1] - 1;
        return pitchesOut == 0 && notesOut <= 2 || notesOut == 0 && pitchesOut <= 2;
    }

    private int price(List<Note> tune, int[] one, int[] next) {
        int tuneStep = tune.get(next[1]).pitch - tune.get(one[1]).pitch;
        int humStep = hum.get(next[0]) - hum.get(one[0]);
        int price = slip * Math.max(tuneStep - humStep, humStep - tuneStep);
        for (Note out : tune.subList(one[1] + 1, next[1])) {
            price += ornament * out.length;
        }
        for (int out = one[0] + 1; out < next[0]; out++) {
            price += hum.get(out).intValue() == hum.get(out - 1).intValue() ? repeat : 3 * repeat;
        }
        return price;
    }

    List<Integer> ranked() {
        List<Integer> ranked = new ArrayList<>();
        Map<Integer, Integer> costs = new HashMap<>();
        for (int tune = 0; tune < tunes.size(); tune++) {
            int cost = isKnown(tune) ? cost(tune) : -1;
            if (cost >= 0) {
                ranked.add(tune);
                costs.put(tune, cost);
            }
        }
        // The sort is stable, so that tunes of the same cost stay by their numbers.
        ranked.sort((one, other) -> Integer.compare(costs.get(one), costs.get(other)));
        return ranked;
    }

    int likeContour() {
        int sum = 0;
        int one = 1;
        for (int tune = 0; tune < tunes.size(); tune++) {
            if (isKnown(tune) && contour(stepsOf(tune)).startsWith(contour(humSteps()))) {
                sum += one;
            }
            one *= 2;
        }
        return sum;
    }

    private static String contour(List<Integer> steps) {
        StringBuilder text = new StringBuilder();
        for (int step : steps) {
            text.append(step > 0 ? 'u' : step < 0 ? 'd' : 's');
        }
        return text.toString();
    }

    List<Integer> places(int steps) {
        List<Integer> run = humSteps().subList(hum.size() - 1 - steps, hum.size() - 1);
        List<Integer> places = new ArrayList<>();
        for (int tune = 0; tune < tunes.size(); tune++) {
            List<Integer> all = isKnown(tune) ? stepsOf(tune) : List.of();
            for (int note = 0; note + steps <= all.size(); note++) {
                if (all.subList(note, note + steps).equals(run)) {
                    places.add(100 * tune + note);
                }
            }
        }
        return places;
    }

    static String linkOf(int one, int other) {
        return Math.min(one, other) + " " + Math.max(one, other);
    }

    /** For each tune the lowest of its family. */
    int[] lowest() {
        int[] lowest = new int[tunes.size()];
        for (int tune = 0; tune < lowest.length; tune++) {
            lowest[tune] = tune;
        }
        for (String link : links) {
            String[] ends = link.split(" ");
            int one = lowest[Integer.parseInt(ends[0])];
            int other = lowest[Integer.parseInt(ends[1])];
            for (int tune = 0; tune < lowest.length; tune++) {
                if (lowest[tune] == one || lowest[tune] == other) {
                    lowest[tune] = Math.min(one, other);
                }
            }
        }
        return lowest;
    }

    int families() {
        Set<Integer> families = new HashSet<>();
        for (int lowest : lowest()) {
            families.add(lowest);
        }
        return families.size();
    }
}
