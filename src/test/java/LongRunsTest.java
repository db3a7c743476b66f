import java.lang.reflect.Method;
import java.lang.reflect.Modifier;
import java.util.ArrayList;
import java.util.HashSet;
import java.util.List;
import java.util.Map;
import java.util.Set;
import java.util.TreeMap;

/**
 * Long runs of calls, right ones and wrong ones, which follow each other in any
 * order and whose answers are those of Model: 512 calls on each object. What comes
 * up in them is counted, so that runs in which too little happens fail, too.
 */
public final class LongRunsTest {
    private static final Check check = new Check();
    private static final int RUNS = 2000;
    private static final int MOST_CALLS = 512;
    private static final int OFTEN = 10;
    private static final int ASKED_AT_ONCE = 4;

    /** Which answers each change must have changed in some of the runs. */
    private static final String[] CHANGED = {
        "add: tunes notes shared cost costByAll matches found likeContour family families",
        "note: notes step shared cost costByAll matches found likeContour places place",
        "correct: step shared cost costByAll found likeContour places place",
        "retire: cost costByAll matches found likeContour places place",
        "hum: hummed cost costByAll matches found likeContour places place",
        "hush: hummed cost costByAll matches found likeContour places place",
        "setCosts: cost costByAll found",
        "link: family families",
        "cut: family families",
    };

    private static final Map<String, Integer> seen = new TreeMap<>();

    private final Run run = new Run();
    private final Draws draws;
    private final Set<String> linked = new HashSet<>();
    private final int callsOfChangesAlone;
    private boolean wasEmptied;

    private LongRunsTest(int number) {
        int pitches = number % 3 == 0 ? 61 : number % 3 == 1 ? 4 : 12;
        int mostTunes = number % 4 == 0 ? 17 : 2 + number % 4;
        draws = new Draws(run.model, number, pitches, mostTunes);
        callsOfChangesAlone = number % 5 * 50;
    }

    public static void main(String[] args) {
        for (int number = 0; number < RUNS; number++) {
            LongRunsTest test = new LongRunsTest(number);
            boolean asDue = true;
            while (asDue && test.run.calls() < MOST_CALLS) {
                asDue = test.goesOn();
            }
            check.holds("run " + number + (asDue ? "" : test.run.story()), asDue);
        }
        callsCameUp();
        changesCameUp();
        cameUp("link again");
        cameUp("hum anew");
        check.end("LongRunsTest");
    }

    private boolean goesOn() {
        int left = MOST_CALLS - run.calls();
        int kinds = run.calls() < callsOfChangesAlone ? 1 : left > 2 * ASKED_AT_ONCE ? 3 : 2;
        switch (draws.draw(kinds)) {
            case 0: return made(draws.change());
            case 1: return made(draws.ask());
            default: return madeBetweenAsks();
        }
    }

    /** The same is asked ahead of a change and behind it. */
    private boolean madeBetweenAsks() {
        List<Call> asks = new ArrayList<>();
        for (int i = 0; i < ASKED_AT_ONCE; i++) {
            asks.add(draws.ask());
        }
        List<String> before = new ArrayList<>();
        for (Call ask : asks) {
            if (!made(ask)) {
                return false;
            }
            before.add(run.lastAnswer());
        }
        if (!made(draws.change())) {
            return false;
        }
        String change = run.lastName();
        for (int i = 0; i < ASKED_AT_ONCE; i++) {
            if (!made(asks.get(i))) {
                return false;
            }
            if (!run.lastAnswer().equals(before.get(i))) {
                count(change + " changes " + run.lastName());
            }
        }
        return true;
    }

    private boolean made(Call call) {
        boolean isAsDue = call.isAsDue(run);
        String name = run.lastName();
        count(name + (run.wasRefused() ? " throws " + run.lastAnswer() : " answers"));
        if (!run.wasRefused()) {
            countAgain(name);
        }
        return isAsDue;
    }

    private void countAgain(String name) {
        if (name.equals("link") && !linked.add(run.lastCall())) {
            // The same link was made before, so that it has been cut since.
            count("link again");
        }
        if (name.equals("hum") && wasEmptied) {
            count("hum anew");
        }
        wasEmptied = wasEmptied || name.equals("hush") && !run.lastAnswer().equals("0");
    }

    private static void count(String what) {
        seen.merge(what, 1, Integer::sum);
    }

    private static void cameUp(String what) {
        int times = seen.getOrDefault(what, 0);
        check.holds(what + " came up " + times + " times, which is often enough,", times >= OFTEN);
    }

    /** Each call was answered, and threw each exception of its throws clause. */
    private static void callsCameUp() {
        for (Method method : TuneCatalogue.class.getDeclaredMethods()) {
            if (Modifier.isPublic(method.getModifiers())) {
                cameUp(method.getName() + " answers");
                for (Class<?> exception : method.getExceptionTypes()) {
                    cameUp(method.getName() + " throws " + exception.getSimpleName());
                }
            }
        }
    }

    private static void changesCameUp() {
        for (String line : CHANGED) {
            String change = line.substring(0, line.indexOf(':'));
            for (String ask : line.substring(line.indexOf(' ') + 1).split(" ")) {
                cameUp(change + " changes " + ask);
            }
        }
    }
}
