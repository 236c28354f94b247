/** Promises 1 to 4, 7 to 13: the court, the law, witnesses, and how KINDS look, wait and drop. */
public final class CourtTest {
    private static final Check check = new Check("CourtTest");

    public static void main(String[] args) {
        newObject();
        court();
        courtRefuses();
        bench();
        laws();
        asks();
        witnesses();
        puts();
        tells();
        kindsLook();
        kindsWait();
        kindsDrop();
        boundsComeLast();
        stooping();
        linen();
        check.end();
    }

    private static void newObject() {
        HandkerchiefsDropped x = new HandkerchiefsDropped();
        check.due("count(0)", x.count(0), 0);
        check.due("count(1)", x.count(1), 0);
        check.due("count(2)", x.count(2), 0);
        check.due("count(3)", x.count(3), 1);
        check.due("count(4)", x.count(4), 0);
        check.due("count(5)", x.count(5), 0);
        check.due("count(6)", x.count(6), HandkerchiefsDropped.BAD);
        check.due("count(-1)", x.count(-1), HandkerchiefsDropped.BAD);
        for (int f = 0; f < 10; f++) {
            check.due("weight " + f, x.bench(0, f), 0);
        }
        for (int man = 0; man < 6; man++) {
            check.due("keen " + man, x.bench(1, man), 50);
        }
        check.due("admitted", x.bench(2, 0), 0);
        check.due("verdict", x.bench(3, 0), 0);
        for (int s = 0; s < 4; s++) {
            check.due("sheet " + s, x.judge(s), -11);
        }
        check.due("back", x.back(), HandkerchiefsDropped.STATE);
    }

    private static void court() {
        HandkerchiefsDropped x = new HandkerchiefsDropped();
        check.due("weight was", x.court(0, 9, -99), 0);
        check.due("weight was", x.court(0, 9, 99), -99);
        check.due("weight is", x.bench(0, 9), 99);
        check.due("keen was", x.court(1, 5, 99), 50);
        check.due("keen was", x.court(1, 5, 0), 99);
        check.due("keen is", x.bench(1, 5), 0);
        check.due("hour was", x.court(2, -77, 999), 0);
        check.due("hour is", x.count(1), 999);
        check.due("hour was", x.court(2, 77, 4), 999);
        check.due("admitted was", x.court(3, 1000, 1023), 0);
        check.due("admitted was", x.court(3, -1, 5), 1023);
        check.due("admitted is", x.bench(2, -1), 5);
    }

    private static void courtRefuses() {
        HandkerchiefsDropped x = new HandkerchiefsDropped();
        int[][] noneSuch = {{-1, 0}, {4, 0}, {0, 10}, {0, -1}, {1, 6}, {1, -1}};
        for (int[] n : noneSuch) {
            check.due("court none such", x.court(n[0], n[1], 1), -5000);
            check.due("court none such ahead of v", x.court(n[0], n[1], 10000), -5000);
        }
        int[][] wrong = {{0, 100}, {0, -100}, {1, 100}, {1, -1}, {2, 1000}, {2, -1}, {3, 1024}, {3, -1}};
        for (int[] w : wrong) {
            check.due("court v", x.court(w[0], 0, w[1]), -7000);
        }
        check.due("weight stays", x.bench(0, 0), 0);
        check.due("keen stays", x.bench(1, 0), 50);
        check.due("hour stays", x.count(1), 0);
        check.due("admitted stays", x.bench(2, 0), 0);
    }

    private static void bench() {
        HandkerchiefsDropped x = new HandkerchiefsDropped();
        x.court(0, 0, 10);
        x.court(0, 3, -25);
        x.court(0, 9, 99);
        x.court(3, 0, 1 | 8);
        check.due("verdict of two", x.bench(3, -5), -15);
        x.court(3, 0, 1 | 8 | 512);
        check.due("verdict of three", x.bench(3, 0), 84);
        x.court(2, 0, 998);
        check.due("who passes", x.bench(4, 99), 998 % 6);
        x.court(2, 0, 6);
        check.due("who passes", x.bench(4, 99), 0);
        check.due("bench", x.bench(0, 10), -5000);
        check.due("bench", x.bench(0, -1), -5000);
        check.due("bench", x.bench(1, 6), -5000);
        check.due("bench", x.bench(1, -1), -5000);
        check.due("bench", x.bench(5, 0), -5000);
        check.due("bench", x.bench(-1, 0), -5000);
    }

    private static void laws() {
        HandkerchiefsDropped x = new HandkerchiefsDropped();
        x.witness(0, 1, 10);
        check.due("text 1", Check.read(x, "looks 1;waits 2;drops 3;"), 1);
        check.due("the law is 0 still", x.count(4), 0);
        check.due("asks by text 0", x.asks(0, 0), 10);
        check.due("force(1)", x.force(1), 0);
        check.due("the law", x.count(4), 1);
        check.due("asks by text 1", x.asks(0, 0), 1);
        check.due("force(2)", x.force(2), HandkerchiefsDropped.BAD);
        check.due("force(-1)", x.force(-1), HandkerchiefsDropped.BAD);
        check.due("force(0)", x.force(0), 1);
    }

    private static void asks() {
        HandkerchiefsDropped x = new HandkerchiefsDropped();
        x.witness(57, 21, 33);
        x.court(2, 0, 7);
        check.due("looks", x.asks(0, 0), 33);
        check.due("waits", x.asks(1, 0), 6);
        check.due("drops", x.asks(2, 0), 7);
        check.due("none", x.asks(3, 0), -1000);
        check.due("none", x.asks(-1, 0), -1000);
        check.due("none", x.asks(0, 1), -1000);
        check.due("none", x.asks(0, -1), -1000);
        Check.rule(x, "looks 500;waits 0-1;drops 0-99-1;");
        check.due("looks bound", x.asks(0, 0), 99);
        check.due("waits bound", x.asks(1, 0), 0);
        check.due("drops bound", x.asks(2, 0), -99);
        Check.rule(x, "looks 0-5;waits 100;drops 100;");
        check.due("looks bound", x.asks(0, 0), 0);
        check.due("waits bound", x.asks(1, 0), 99);
        check.due("drops bound", x.asks(2, 0), 99);
        Check.rule(x, "looks known;waits more;drops admitted-lying;");
        x.court(3, 0, 1023);
        check.due("known", x.asks(0, 0), 3);
        check.due("more", x.asks(1, 0), 7);
        check.due("admitted", x.asks(2, 0), 10);
        x.drop(0);
        check.due("lying", x.asks(2, 0), 9);
    }

    private static void witnesses() {
        HandkerchiefsDropped x = new HandkerchiefsDropped();
        int[][] bad = {{-1, 0, 0}, {60, 0, 0}, {0, -1, 0}, {0, 1024, 0}, {0, 0, -1}, {0, 0, 100}};
        for (int[] b : bad) {
            check.due("witness", x.witness(b[0], b[1], b[2]), HandkerchiefsDropped.BAD);
        }
        check.due("none came", x.count(0), 0);
        for (int p = 0; p < 6; p++) {
            check.due("witness", x.witness(p * 10 + 9 - p, 1023 - p, 99 - p), p);
        }
        for (int p = 0; p < 6; p++) {
            check.due("kind", x.told(p, 3), p);
            check.due("more", x.told(p, 4), 9 - p);
            check.due("known", x.told(p, 0), 1023 - p);
            check.due("face", x.told(p, 1), 99 - p);
            check.due("vain", x.told(p, 2), 0);
        }
        check.due("full", x.witness(0, 0, 0), HandkerchiefsDropped.FULL);
        check.due("bad ahead of full", x.witness(60, 0, 0), HandkerchiefsDropped.BAD);
        check.due("six", x.count(0), 6);
    }

    private static void puts() {
        HandkerchiefsDropped x = new HandkerchiefsDropped();
        x.witness(0, 5, 7);
        check.due("known was", x.put(0, 0, 1023), 5);
        check.due("known is", x.told(0, 0), 1023);
        check.due("face was", x.put(0, 1, 99), 7);
        check.due("face is", x.told(0, 1), 99);
        check.due("none such", x.put(1, 0, 0), -5);
        check.due("none such", x.put(-1, 9, 9999), -5);
        check.due("what", x.put(0, 2, 0), -7);
        check.due("what", x.put(0, -1, 0), -7);
        check.due("v", x.put(0, 0, 1024), -7);
        check.due("v", x.put(0, 0, -1), -7);
        check.due("v", x.put(0, 1, 100), -7);
        check.due("v", x.put(0, 1, -1), -7);
        check.due("known stays", x.told(0, 0), 1023);
        check.due("face stays", x.told(0, 1), 99);
    }

    private static void tells() {
        HandkerchiefsDropped x = new HandkerchiefsDropped();
        x.witness(0, 0, 60);
        x.witness(0, 6, 60);
        check.due("drops none", x.told(0, 5), -1);
        check.due("waits though none is known", x.told(0, 6), 6);
        x.drop(1);
        x.drop(1);
        x.court(2, 0, 1);
        check.due("her handkerchiefs", x.told(1, 7), 3);
        check.due("none of hers", x.told(0, 7), 0);
        check.due("drops", x.told(1, 5), 2);
        check.due("none such", x.told(2, 0), -5);
        check.due("none such", x.told(-1, 99), -5);
        check.due("what", x.told(0, 9), -7);
        check.due("what", x.told(0, -1), -7);
    }

    private static void looks(HandkerchiefsDropped x, int p, int... due) {
        for (int man = 0; man < 6; man++) {
            check.due("kind " + x.told(p, 3) + " looks to " + man, x.regard(p, man, 0), due[man]);
        }
    }

    private static void kindsLook() {
        HandkerchiefsDropped x = new HandkerchiefsDropped();
        x.witness(2, 1, 55);
        x.witness(18, 1, 55);
        x.witness(23, 1, 55);
        x.witness(38, 1, 55);
        x.witness(43, 1, 55);
        x.witness(53, 1, 55);
        looks(x, 0, 55, 55, 55, 55, 55, 55);
        looks(x, 1, 55, 55, 99, 55, 55, 55);
        looks(x, 2, 40, 40, 40, 40, 40, 40);
        looks(x, 3, 27, 55, 49, 55, 27, 55);
        looks(x, 4, 40, 40, 40, 40, 40, 40);
        looks(x, 5, 0, 0, 0, 0, 0, 0);
        check.due("none such", x.regard(6, 0, 0), -5);
        check.due("none such", x.regard(0, 6, 7), -5);
        check.due("none such", x.regard(0, -1, 0), -5);
        check.due("none such", x.regard(-1, 0, 0), -5);
        check.due("what", x.regard(0, 0, 2), -7);
        check.due("what", x.regard(0, 0, -1), -7);
    }

    private static void waits(HandkerchiefsDropped x, int... due) {
        for (int p = 0; p < 6; p++) {
            check.due("kind " + p + " waits", x.told(p, 6), due[p]);
        }
    }

    private static void kindsWait() {
        HandkerchiefsDropped x = new HandkerchiefsDropped();
        for (int kind = 0; kind < 6; kind++) {
            x.witness(kind * 10 + 4, 1, 55);
        }
        waits(x, 6, 3, 6, 99, 12, 5);
        x.court(2, 0, 1);
        waits(x, 6, 3, 6, 7, 12, 5);
        x.court(2, 0, 10);
        waits(x, 6, 3, 6, 99, 12, 5);
        Check.rule(x, "looks 0;waits 7;drops 0;");
        x.court(2, 0, 11);
        waits(x, 7, 3, 7, 7, 14, 5);
    }

    private static void drops(HandkerchiefsDropped x, int... due) {
        for (int p = 0; p < 6; p++) {
            check.due("kind " + p + " drops at hour " + x.count(1), x.told(p, 5), due[p]);
        }
    }

    private static void kindsDrop() {
        HandkerchiefsDropped x = new HandkerchiefsDropped();
        // Known are the facts 1, 3, 4, 8, 9; more is 8: 3 by five facts.
        for (int kind = 0; kind < 6; kind++) {
            x.witness(kind * 10 + 8, 2 | 8 | 16 | 256 | 512, 55);
        }
        drops(x, 1, 1, 9, 1, 9, 1);
        x.court(2, 0, 3);
        drops(x, 8, 8, 3, 8, 8, 8);
        x.court(2, 0, 5);
        drops(x, 1, 1, 9, 1, 9, 1);
        x.court(2, 0, 104);
        // The text says 104, but 99 is the bound, which modulo 5 is 4 as well.
        drops(x, 9, 9, 1, 9, 8, 9);
        Check.rule(x, "looks 0;waits 0;drops 0-1;");
        drops(x, 9, 9, 1, 9, 8, 9);
        Check.rule(x, "looks 0;waits 0;drops 0-7;");
        drops(x, 8, 8, 3, 8, 8, 8);
    }

    private static void boundsComeLast() {
        HandkerchiefsDropped x = new HandkerchiefsDropped();
        for (int kind = 0; kind < 6; kind++) {
            x.witness(kind * 10 + 9, 1, 10);
        }
        looks(x, 2, 0, 0, 0, 0, 0, 0);
        x.court(2, 0, 1);
        Check.rule(x, "looks 99;waits 0;drops 0;");
        // A lady's half of nothing would be 1 by the bound, but the widow takes it without it.
        waits(x, 1, 1, 1, 9, 1, 10);
        Check.rule(x, "looks 99;waits 99;drops 0;");
        waits(x, 99, 49, 99, 58, 99, 10);
        looks(x, 3, 49, 99, 49, 99, 49, 99);
    }

    private static void stooping() {
        HandkerchiefsDropped x = new HandkerchiefsDropped();
        x.witness(0, 1, 40);
        int[] keen = {59, 60, 61, 0, 99, 50};
        for (int man = 0; man < 6; man++) {
            x.court(1, man, keen[man]);
        }
        check.due("who stoops", x.told(0, 8), 2 | 4 | 16);
        check.due("stoops", x.regard(0, 0, 1), 0);
        check.due("stoops", x.regard(0, 1, 1), 1);
        check.due("stoops", x.regard(0, 4, 1), 1);
        x.court(1, 0, 60);
        check.due("who stoops", x.told(0, 8), 1 | 2 | 4 | 16);
    }

    private static void linen() {
        HandkerchiefsDropped x = new HandkerchiefsDropped();
        x.witness(0, 4, 40);
        x.witness(40, 32, 40);
        x.drop(1);
        x.drop(0);
        check.due("whose", x.linen(0, 0), 1);
        check.due("which", x.linen(0, 1), 5);
        check.due("left", x.linen(0, 2), 12);
        check.due("whose", x.linen(1, 0), 0);
        check.due("which", x.linen(1, 1), 2);
        check.due("left", x.linen(1, 2), 6);
        x.hour();
        check.due("left", x.linen(0, 2), 11);
        check.due("what", x.linen(0, 3), -7);
        check.due("what", x.linen(0, -1), -7);
        check.due("not there", x.linen(2, 3), -6);
        check.due("not there", x.linen(8, 0), -6);
        check.due("not there", x.linen(-1, 0), -6);
    }
}
