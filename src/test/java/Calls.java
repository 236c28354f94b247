import java.lang.reflect.Method;
import java.lang.reflect.Modifier;
import java.util.Arrays;
import java.util.Comparator;

/** The calls of the interface, by their names' order, with numbers by lots that suit them more often than not. */
final class Calls {
    private Calls() {
    }

    static Method[] of(Class<?> type) {
        return Arrays.stream(type.getDeclaredMethods())
            .filter(m -> Modifier.isPublic(m.getModifiers()) && !Modifier.isStatic(m.getModifiers()))
            .sorted(Comparator.comparing(Method::getName)).toArray(Method[]::new);
    }

    static long answer(Object of, Method call, int... args) throws ReflectiveOperationException {
        Object[] boxed = Arrays.stream(args).boxed().toArray();
        return ((Number) call.invoke(of, boxed)).longValue();
    }

    /** Numbers for a call; in a wild run any number may stand anywhere, else seldom. */
    static int[] arguments(Method call, Lots lots, boolean wild) {
        int[] args = new int[call.getParameterCount()];
        boolean oneIsWild = lots.oneIn(8);
        for (int k = 0; k < args.length; k++) {
            args[k] = wild && lots.oneIn(3) ? lots.wild() : likely(call.getName(), k, lots);
        }
        if (oneIsWild && args.length > 0) {
            args[lots.below(args.length)] = lots.wild();
        }
        return args;
    }

    /** A number that suits the call's place k more often than not. */
    private static int likely(String name, int k, Lots lots) {
        switch (name + k) {
            case "court1": return lots.below(7);
            case "court2": return lots.oneIn(2) ? lots.below(100) : lots.below(1030) - lots.below(100);
            case "bench1": return lots.below(10);
            case "feed0": return 1 + lots.below(5);
            case "feed1": case "feed2": case "feed3": case "feed4": case "feed5": return lots.below(256);
            case "witness0": return lots.below(62);
            case "witness1": return lots.below(1030);
            case "witness2": return lots.below(102);
            case "put2": return lots.below(lots.oneIn(2) ? 100 : 1024);
            case "told1": return lots.below(10);
            case "when0": return lots.below(12) - 1;
            case "run0": case "advise0": case "gallant0": return lots.below(42);
            case "run1": return lots.oneIn(2) ? lots.below(4) : 9 + lots.below(7);
            case "film1": return lots.below(22);
            case "drawn0": case "odds0": return lots.below(100001);
            case "odds1": return lots.below(42);
            case "odds2": return lots.below(300) - 150;
            case "sheet2": return lots.below(lots.oneIn(5) ? 45 : 22);
            case "sheet1": return lots.below(5) - 1;
            case "cell1": case "copy1": case "copy3": return lots.below(12);
            case "copy4": return lots.below(12) - 1;
            case "cell2": return lots.oneIn(2) ? lots.below(60) : lots.below(200000) - 100000;
            case "witnessesBy2": return lots.below(10);
            case "taken0": return lots.below(15) - lots.below(2);
            case "taken1": return lots.below(8);
            case "linen0": case "burn0": case "fate0": return lots.below(9);
            case "regard1": case "keens1": return lots.below(7);
            case "kinds1": case "faces1": return lots.below(6);
            case "asks1": case "told0": case "drop0": case "put0": case "regard0": return lots.below(7);
            case "force0": return lots.below(7);
            case "count0": return lots.below(7);
            case "cast0": return lots.below(5);
            case "advise1": case "cast1": case "gallant1": case "fate1": case "turn0": case "mean0": case "drawn1":
            case "odds3": case "kinds2": case "faces2": case "keens2": case "put1": case "regard2":
                return lots.oneIn(12) ? 2 : lots.below(2);
            default: return lots.below(4) - (lots.oneIn(10) ? 1 : 0);
        }
    }
}
