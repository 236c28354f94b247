import java.lang.reflect.Method;
import java.util.Arrays;

/** All promises: long runs of calls by fixed lots, each answer compared with that of the model. */
public final class ModelTest {
    private static final int RUNS = 400;
    private static final int CALLS = 512;

    private final Method[] mine = Calls.of(HandkerchiefsDropped.class);
    private final Method[] theirs = Calls.of(Model.class);
    private final Lots lots;
    private final HandkerchiefsDropped x = new HandkerchiefsDropped();
    private final Model model = new Model();
    /** In some runs any number may stand anywhere. */
    private final boolean wild;
    private final StringBuilder told = new StringBuilder();
    private int calls;
    private static int wrong;
    private static long asked;

    private ModelTest(int seed) {
        lots = new Lots(seed);
        wild = seed % 5 == 4;
    }

    public static void main(String[] args) throws Exception {
        int runs = args.length > 0 ? Integer.parseInt(args[0]) : RUNS;
        int first = args.length > 1 ? Integer.parseInt(args[1]) : 0;
        for (int seed = first; seed < first + runs && wrong < 5; seed++) {
            new ModelTest(seed).run(seed);
        }
        System.out.println("ModelTest: " + asked + " asked, " + wrong + " wrong");
        System.exit(wrong == 0 && asked > 0 ? 0 : 1);
    }

    private void run(int seed) throws Exception {
        int before = wrong;
        for (int f = 0; f < 10 && !lots.oneIn(12); f++) {
            call("court", 0, f, lots.below(199) - 99);
        }
        while (calls < CALLS && wrong == before) {
            if (lots.oneIn(60)) {
                text();
            } else if (calls < 60 && lots.oneIn(9)) {
                call("witness", lots.below(60), lots.below(1024), lots.below(100));
            } else if (lots.oneIn(12)) {
                call("drop", lots.below(6));
            } else if (lots.oneIn(30)) {
                call("hour");
            } else if (lots.oneIn(40)) {
                tale();
            } else if (lots.oneIn(60)) {
                witnessesBy();
            } else {
                any();
            }
        }
        if (wrong != before) {
            System.out.println("seed " + seed + ":\n" + told);
        }
    }

    private void call(String name, int... args) throws Exception {
        for (int i = 0; i < mine.length; i++) {
            if (mine[i].getName().equals(name)) {
                compare(i, args);
            }
        }
    }

    private void compare(int i, int... args) throws Exception {
        if (calls >= CALLS) {
            return;
        }
        long got = Calls.answer(x, mine[i], args);
        long due = Calls.answer(model, theirs[i], args);
        calls++;
        asked++;
        told.append(mine[i].getName()).append(Arrays.toString(args)).append(" -> ").append(got).append('\n');
        if (got != due) {
            wrong++;
            told.append("  due is ").append(due).append('\n');
        }
    }

    private void any() throws Exception {
        int i = lots.below(mine.length);
        boolean seldom = mine[i].getName().equals("feed") || mine[i].getName().equals("back");
        if (seldom && !lots.oneIn(8)) {
            return;
        }
        compare(i, Calls.arguments(mine[i], lots, wild));
    }

    /** Films hours, sometimes tells one of them otherwise, and asks by what it would be so. */
    private void tale() throws Exception {
        int s = lots.below(4);
        call("film", s, lots.below(9));
        if (lots.oneIn(2)) {
            call("court", 1, lots.below(6), lots.below(100));
        }
        if (lots.oneIn(4)) {
            call("cell", s, lots.below(8), lots.below(6));
        }
        call("judge", s);
        call("kinds", s, lots.below(6), lots.below(2));
        call("faces", s, lots.below(6), lots.below(2));
        call("keens", s, lots.below(6), lots.below(2));
        call("burnt", s);
        call("laws", s);
    }

    /** A sheet of numbers most of which suit witnesses; a few of them are made room for ahead. */
    private void witnessesBy() throws Exception {
        int s = lots.below(4);
        int sort = lots.below(3);
        int n = lots.below(12);
        call("image");
        call("sheet", s, sort, n);
        for (int i = 0; i < n; i++) {
            call("cell", s, i, lots.below(70));
        }
        call("copy", s, lots.below(4), s, lots.below(4), lots.below(5));
        call("witnessesBy", s, sort, lots.below(3), lots.below(5));
        if (lots.oneIn(3)) {
            call("back");
        }
    }

    private void text() throws Exception {
        String text = new Texts(lots).any();
        for (int i = 0; i < text.length(); i += 5) {
            int[] args = new int[6];
            args[0] = Math.min(5, text.length() - i);
            for (int k = 0; k < args[0]; k++) {
                args[k + 1] = text.charAt(i + k);
            }
            call("feed", args);
        }
        call("text");
        call("force", lots.below(6));
    }
}
