import java.util.function.Function;

/** What is asked "in thought" (promises 11, 12, 14, 17 to 20, 22, 23, 25, 27 to 33) comes truly, once it is done. */
public final class ThoughtTest {
    private static final int WORLDS = 60;
    private static final String[] LAWS = {"looks 90;waits 3;drops hour;", "looks hour*7;waits 9;drops lying;",
        "looks face-lying*9;waits more;drops more;", "looks 99-admitted*8;waits 20;drops -1;",
        "looks 60*(hour<9);waits 40;drops known-1;", "looks face+10*(3<lying);waits face;drops 5;"};
    private static final Check check = new Check("ThoughtTest");

    public static void main(String[] args) {
        for (int seed = 0; seed < WORLDS; seed++) {
            stoops(world(seed));
            drops(world(seed));
            runs(world(seed), seed % 41);
            whens(seed);
            fates(seed);
            films(world(seed));
            advises(world(seed), seed % 21);
            gallants(world(seed), seed % 41);
            casts(seed);
            faces(world(seed), seed);
            keens(world(seed), seed);
            burnt(world(seed));
            laws(world(seed));
            drawn(world(seed), seed * 1666);
            odds(world(seed), seed * 1666);
        }
        check.end();
    }

    /** An assize by lots; sheet 0 tells hours of it, half of the times not quite as they will be. */
    private static HandkerchiefsDropped world(int seed) {
        Lots lots = new Lots(seed + 90000);
        HandkerchiefsDropped x = new HandkerchiefsDropped();
        for (int f = 0; f < 10; f++) {
            x.court(0, f, lots.below(199) - 99);
        }
        for (int man = 0; man < 6; man++) {
            x.court(1, man, lots.below(100));
        }
        x.court(2, 0, lots.below(14));
        int witnesses = seed % 7;
        for (int p = 0; p < witnesses; p++) {
            x.witness(lots.below(60), lots.below(1024), lots.below(100));
        }
        Check.rule(x, LAWS[lots.below(LAWS.length)]);
        Check.rule(x, LAWS[lots.below(LAWS.length)]);
        for (int i = 0; i < 12 && witnesses > 0; i++) {
            x.drop(lots.below(witnesses));
            if (lots.oneIn(6)) {
                x.hour();
            }
        }
        x.film(0, lots.below(8));
        if (lots.oneIn(2)) {
            x.cell(0, lots.below(8), lots.below(6));
        }
        return x;
    }

    private static void stoops(HandkerchiefsDropped x) {
        for (int p = 0; p < x.count(0); p++) {
            int bits = 0;
            for (int man = 0; man < 6; man++) {
                int stoops = x.bench(1, man) + x.regard(p, man, 0) >= 100 ? 1 : 0;
                check.due("regard", x.regard(p, man, 1), stoops);
                bits |= stoops << man;
            }
            check.due("told", x.told(p, 8), bits);
        }
    }

    private static void drops(HandkerchiefsDropped x) {
        for (int p = 0; p < x.count(0) && x.count(2) < 8; p++) {
            int fact = x.told(p, 5);
            int waits = x.told(p, 6);
            int h = x.drop(p);
            check.due("drop", h < 0 ? -1 : x.linen(h, 1), fact);
            check.due("drop", h < 0 ? waits : x.linen(h, 2), waits);
            check.due("drop", h < 0 ? p : x.linen(h, 0), p);
        }
    }

    private static void pass(HandkerchiefsDropped x, int hours) {
        for (int i = 0; i < hours; i++) {
            x.hour();
        }
    }

    private static void runs(HandkerchiefsDropped x, int n) {
        int admitted = x.run(n, 0);
        int verdict = x.run(n, 1);
        int lying = x.run(n, 2);
        int[] vain = new int[6];
        for (int p = 0; p < 6; p++) {
            vain[p] = x.run(n, 10 + p);
        }
        pass(x, n);
        check.due("run 0", admitted, x.bench(2, 0));
        check.due("run 1", verdict, x.bench(3, 0));
        check.due("run 2", lying, x.count(2));
        for (int p = 0; p < 6; p++) {
            check.due("run 10 and more", vain[p], p < x.count(0) ? x.told(p, 2) : -5000);
        }
    }

    private static void whens(int seed) {
        for (int what = -1; what < 10; what++) {
            HandkerchiefsDropped x = world(seed);
            int told = x.when(what);
            int due = -1;
            for (int n = 0; n <= 60 && due < 0; n++) {
                boolean is = what < 0 ? x.count(2) == 0 : (x.bench(2, 0) >> what & 1) == 1;
                due = is ? n : -1;
                x.hour();
            }
            check.due("when " + what, told, due);
        }
    }

    private static void fates(int seed) {
        for (int h = 0; h < 8; h++) {
            HandkerchiefsDropped x = world(seed);
            int who = x.fate(h, 0);
            int behind = x.fate(h, 1);
            int hours = 0;
            int left = 0;
            boolean stoops = false;
            while (x.linen(h, 2) > 0) {
                left = x.linen(h, 2);
                stoops = x.run(1, 10 + x.linen(h, 0)) == x.told(x.linen(h, 0), 2);
                x.hour();
                hours++;
            }
            check.due("fate 1", behind, hours == 0 ? -6 : hours);
            if (hours > 0 && (left > 1 || stoops)) {
                check.due("fate 0", who, (x.count(1) - 1) % 6);
            } else if (hours == 0) {
                check.due("fate 0", who, -6);
            }
        }
    }

    private static void films(HandkerchiefsDropped x) {
        x.film(1, 20);
        check.due("judge of a film", x.judge(1), -1);
        int[] told = new int[20];
        x.image();
        for (int i = 0; i < 20; i++) {
            x.hour();
            told[i] = Integer.bitCount(x.bench(2, 0));
        }
        x.back();
        Check.fill(x, 2, 2, told);
        check.due("judge of hours", x.judge(2), -1);
        x.cell(2, 13, told[13] + 1);
        check.due("judge of another hour", x.judge(2), 13);
    }

    private static void advises(HandkerchiefsDropped x, int n) {
        int who = -1;
        int most = x.run(n, 1);
        x.image();
        for (int p = 0; p < 6; p++) {
            if (x.drop(p) >= 0 && x.run(n, 1) > most) {
                most = x.run(n, 1);
                who = p;
            }
            x.back();
        }
        check.due("advise 0", x.advise(n, 0), who);
        check.due("advise 1", x.advise(n, 1), most);
    }

    private static void gallants(HandkerchiefsDropped x, int n) {
        int who = -1;
        int most = Integer.bitCount(x.run(n, 0));
        for (int man = 0; man < 6; man++) {
            int was = x.court(1, man, 99);
            int facts = Integer.bitCount(x.run(n, 0));
            x.court(1, man, was);
            if (facts > most) {
                most = facts;
                who = man;
            }
        }
        check.due("gallant 0", x.gallant(n, 0), who);
        check.due("gallant 1", x.gallant(n, 1), most);
    }

    /** All rows, by their digits' order: those that go on come behind the shorter one. */
    private static void casts(int seed) {
        HandkerchiefsDropped x = world(seed);
        int[] best = {0, x.run(12, 1)};
        for (int a = 0; a < 6; a++) {
            row(seed, best, a);
            for (int b = 0; b < 6; b++) {
                row(seed, best, a, b);
                for (int c = 0; c < 6 && seed < 25; c++) {
                    row(seed, best, a, b, c);
                }
            }
        }
        int n = seed < 25 ? 3 : 2;
        check.due("cast 0", x.cast(n, 0), best[0]);
        check.due("cast 1", x.cast(n, 1), best[1]);
    }

    private static void row(int seed, int[] best, int... row) {
        HandkerchiefsDropped x = world(seed);
        int digits = 0;
        int used = 0;
        for (int p : row) {
            if ((used >> p & 1) == 1 || x.drop(p) < 0) {
                return;
            }
            used |= 1 << p;
            x.hour();
            digits = digits * 10 + p + 1;
        }
        pass(x, 12);
        if (x.bench(3, 0) > best[1]) {
            best[0] = digits;
            best[1] = x.bench(3, 0);
        }
    }

    private static void fits(String what, int many, int least, Function<Integer, Integer> judged) {
        int dueMany = 0;
        int dueLeast = -1;
        for (int v = 0; v < 100; v++) {
            if (judged.apply(v) == -1) {
                dueMany++;
                dueLeast = dueLeast < 0 ? v : dueLeast;
            }
        }
        check.due(what + ": how many", many, dueMany);
        check.due(what + ": the least", least, dueLeast);
    }

    private static void faces(HandkerchiefsDropped x, int seed) {
        if (x.count(0) > 0) {
            int p = seed % x.count(0);
            fits("faces", x.faces(0, p, 0), x.faces(0, p, 1), v -> {
                x.put(p, 1, v);
                return x.judge(0);
            });
        }
    }

    private static void keens(HandkerchiefsDropped x, int seed) {
        int man = seed % 6;
        fits("keens", x.keens(0, man, 0), x.keens(0, man, 1), v -> {
            x.court(1, man, v);
            return x.judge(0);
        });
    }

    private static void burnt(HandkerchiefsDropped x) {
        int told = x.burnt(0);
        int due = 0;
        x.image();
        for (int h = 0; h < 8; h++) {
            due |= x.burn(h) >= 0 && x.judge(0) == -1 ? 1 << h : 0;
            x.back();
        }
        check.due("burnt", told, due);
    }

    private static void laws(HandkerchiefsDropped x) {
        int told = x.laws(0);
        int due = 0;
        for (int t = 0; t < x.count(3); t++) {
            x.force(t);
            due |= x.judge(0) == -1 ? 1 << t : 0;
        }
        check.due("laws", told, due);
    }

    private static void drawn(HandkerchiefsDropped x, int seed) {
        int verdict = x.drawn(seed, 0);
        int admitted = x.drawn(seed, 1);
        long lot = seed + 1;
        for (int i = 0; i < 10; i++) {
            lot = lot * 48271 % 2147483647L;
            x.drop((int) (lot % 8));
            x.hour();
        }
        check.due("drawn 0", verdict, x.bench(3, 0));
        check.due("drawn 1", admitted, x.bench(2, 0));
    }

    private static void odds(HandkerchiefsDropped x, int seed) {
        int least = x.drawn(seed, 0);
        int many = 0;
        for (int i = 0; i < 40; i++) {
            many += x.drawn(seed + i, 0) >= least ? 1 : 0;
        }
        long above = x.odds(seed, 40, least, 0);
        long below = x.odds(seed, 40, least, 1);
        check.due("odds", above * 40, below * many);
        check.isTrue("odds below the line", below > 0 && 40 % below == 0);
    }
}
