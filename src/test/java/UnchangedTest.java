import java.lang.reflect.Method;
import java.util.ArrayList;
import java.util.Arrays;
import java.util.List;
import java.util.Set;

/**
 * REFUSALS "change nothing, but where it is told", and "what is asked changes nothing": one of two objects is spared
 * every refused call and every question, and answers alike all the same.
 */
public final class UnchangedTest {
    private static final int RUNS = 120;
    private static final int CALLS = 230;
    private static final Set<String> CHANGES = Set.of("court", "feed", "text", "force", "witness", "put", "drop", "hour",
        "burn", "film", "image", "back", "sheet", "cell", "copy", "witnessesBy");
    private static final Check check = new Check("UnchangedTest");

    private final Method[] calls = Calls.of(HandkerchiefsDropped.class);
    private final HandkerchiefsDropped asked = new HandkerchiefsDropped();
    private final HandkerchiefsDropped spared = new HandkerchiefsDropped();
    private final Lots lots;
    private final int seed;
    private int spares;

    private UnchangedTest(int itsSeed) {
        seed = itsSeed;
        lots = new Lots(itsSeed + 7000);
    }

    public static void main(String[] args) throws Exception {
        int spares = 0;
        for (int seed = 0; seed < RUNS; seed++) {
            UnchangedTest run = new UnchangedTest(seed);
            run.run();
            spares += run.spares;
        }
        check.isTrue("many calls were refused or asked: " + spares, spares > RUNS * CALLS / 3);
        check.end();
    }

    private void run() throws Exception {
        for (int i = 0; i < CALLS; i++) {
            String name = lots.oneIn(3) ? "drop" : lots.oneIn(12) ? "witness" : "";
            Method call = calls[lots.below(calls.length)];
            for (Method m : calls) {
                call = m.getName().equals(name) ? m : call;
            }
            both(call, Calls.arguments(call, lots, seed % 4 == 0));
        }
        alike("as it stands");
        check.due("back", spared.back(), asked.back());
        alike("as THE IMAGE stands");
        sheets();
    }

    private void both(Method call, int... args) throws Exception {
        long answer = Calls.answer(asked, call, args);
        if (isSpared(call.getName(), answer)) {
            spares++;
        } else {
            check.due(seed + ": " + call.getName() + Arrays.toString(args), Calls.answer(spared, call, args), answer);
        }
    }

    private static boolean isSpared(String name, long answer) {
        switch (name) {
            case "court": return answer <= -5000;
            case "text": return answer == HandkerchiefsDropped.FULL;
            case "witnessesBy": return answer < 0 && answer != -12;
            default: return !CHANGES.contains(name) || answer < 0;
        }
    }

    /** Some ninety questions about all but the sheets. */
    private void alike(String when) {
        check.isTrue(seed + ": both answer alike, " + when, answers(asked).equals(answers(spared)));
    }

    private static List<Integer> answers(HandkerchiefsDropped x) {
        List<Integer> all = new ArrayList<>();
        for (int i = 0; i < 10; i++) {
            all.add(x.count(i));
            all.add(x.bench(0, i));
            all.add(x.bench(1, i));
            all.add(x.linen(i, i % 3));
            all.add(x.linen(i, (i + 1) % 3));
        }
        for (int p = 0; p < 6; p++) {
            for (int what = 0; what < 6; what++) {
                all.add(x.told(p, what));
            }
        }
        all.add(x.bench(2, 0));
        all.add(x.run(9, 0));
        all.add(x.cast(3, 0));
        return all;
    }

    /** Their sorts, their first number by whom it is as a witness's face, and all of them by the hours they tell. */
    private void sheets() {
        for (int s = 0; s < 4; s++) {
            check.due(seed + ": judge", spared.judge(s), asked.judge(s));
            for (int sort = 0; sort < 3; sort++) {
                check.due(seed + ": came", spared.witnessesBy(s, sort, 0, 2), asked.witnessesBy(s, sort, 0, 2));
            }
            for (int i = 9; i < 13; i++) {
                check.due(seed + ": cell", spared.cell(s, i, 1), asked.cell(s, i, 1));
            }
            check.due(seed + ": told", spared.told(s, 1), asked.told(s, 1));
        }
    }
}
