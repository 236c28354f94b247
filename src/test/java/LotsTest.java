/** Promises 32 to 35: assizes by lots, images. */
public final class LotsTest {
    private static final Check check = new Check("LotsTest");

    public static void main(String[] args) {
        drawn();
        drawnByHand();
        odds();
        oddsRefuse();
        images();
        imagesLeaveTheRest();
        check.end();
    }

    /** Six witnesses of a fact each; for each all stoop at once. Lots 6 and 7 are nobody's. */
    private static HandkerchiefsDropped six() {
        HandkerchiefsDropped x = new HandkerchiefsDropped();
        for (int p = 0; p < 6; p++) {
            x.court(0, p, 1 << p);
            x.witness(0, 1 << p, 99);
        }
        return x;
    }

    /** Facts (bits) of the witnesses whose lots are drawn, by the words of the document. */
    private static int factsOf(long seed) {
        int facts = 0;
        long lot = seed + 1;
        for (int i = 0; i < 10; i++) {
            lot = lot * 48271 % 2147483647L;
            facts |= lot % 8 < 6 ? 1 << lot % 8 : 0;
        }
        return facts;
    }

    private static void drawn() {
        HandkerchiefsDropped x = six();
        int[] seeds = {0, 1, 2, 7, 12345, 44487, 99999};
        for (int seed : seeds) {
            check.due("admitted by " + seed, x.drawn(seed, 1), factsOf(seed));
            check.due("verdict by " + seed, x.drawn(seed, 0), factsOf(seed));
        }
        check.due("seed", x.drawn(-1, 0), -5000);
        check.due("seed", x.drawn(100000, 0), -5000);
        check.due("what", x.drawn(0, 2), -5000);
        check.due("what", x.drawn(0, -1), -5000);
        check.due("nothing changed", x.count(1), 0);
        check.due("nothing changed", x.bench(2, 0), 0);
    }

    /** By the seed 0 the lots are 48271, 182605794, 1291394886, ..: modulo 8 it is 7, 2, 6, .. */
    private static void drawnByHand() {
        HandkerchiefsDropped x = new HandkerchiefsDropped();
        x.witness(0, 1, 0);
        x.witness(0, 1, 0);
        x.witness(0, 1023, 0);
        Check.rule(x, "looks (hour=1)*99;waits 1;drops hour;");
        check.due("in the hour 1 witness 2 drops fact 1", x.drawn(0, 1), 2);
        Check.rule(x, "looks (hour=0)*99;waits 1;drops hour;");
        check.due("in the hour 0 nobody does", x.drawn(0, 1), 0);
        Check.rule(x, "looks (hour=2)*99;waits 1;drops hour;");
        check.due("in the hour 2 nobody does, hers is gone", x.drawn(0, 1), 0);
        Check.rule(x, "looks (hour=2)*99;waits 2;drops hour;");
        check.due("in the hour 2 hers is there", x.drawn(0, 1), 2);
    }

    private static void odds(HandkerchiefsDropped x, int seed, int seeds, int least) {
        int many = 0;
        for (int i = 0; i < seeds; i++) {
            many += factsOf(seed + i) >= least ? 1 : 0;
        }
        int shared = 1;
        for (int d = 2; d <= seeds; d++) {
            shared = many % d == 0 && seeds % d == 0 ? d : shared;
        }
        check.due("odds above " + seed + " " + least, x.odds(seed, seeds, least, 0), many / shared);
        check.due("odds below " + seed + " " + least, x.odds(seed, seeds, least, 1), seeds / shared);
    }

    private static void odds() {
        HandkerchiefsDropped x = six();
        odds(x, 0, 40, 32);
        odds(x, 0, 40, 57);
        odds(x, 99999, 40, 50);
        odds(x, 99990, 36, factsOf(99995));
        odds(x, 5, 1, factsOf(5));
        odds(x, 5, 1, factsOf(5) + 1);
        odds(x, 17, 30, -999);
        odds(x, 17, 30, 999);
    }

    private static void oddsRefuse() {
        HandkerchiefsDropped x = six();
        long no = HandkerchiefsDropped.NO;
        check.due("seed", x.odds(-1, 1, 0, 0), no);
        check.due("seed", x.odds(100000, 1, 0, 0), no);
        check.due("seeds", x.odds(0, 0, 0, 0), no);
        check.due("seeds", x.odds(0, 41, 0, 0), no);
        check.due("least", x.odds(0, 1, -1000, 0), no);
        check.due("least", x.odds(0, 1, 1000, 0), no);
        check.due("part", x.odds(0, 1, 0, 2), no);
        check.due("part", x.odds(0, 1, 0, -1), no);
    }

    private static void images() {
        HandkerchiefsDropped x = new HandkerchiefsDropped();
        check.due("none yet", x.back(), -3);
        Check.read(x, "looks 7;waits 7;drops 7;");
        x.witness(57, 3, 11);
        x.witness(52, 5, 12);
        x.court(0, 4, 44);
        x.court(1, 3, 33);
        x.drop(0);
        check.due("image", x.image(), 2);
        x.court(0, 4, 1);
        x.court(1, 3, 1);
        x.put(0, 0, 1);
        x.put(0, 1, 1);
        x.drop(1);
        for (int i = 0; i < 4; i++) {
            x.hour();
        }
        x.court(3, 0, 8);
        x.force(1);
        x.witness(31, 31, 31);
        x.drop(2);
        check.due("vain ahead", x.told(1, 2), 1);
        check.due("back", x.back(), 2);
        check.due("witnesses", x.count(0), 2);
        check.due("hour", x.count(1), 0);
        check.due("handkerchiefs", x.count(2), 1);
        check.due("left", x.linen(0, 2), 8);
        check.due("the law", x.count(4), 0);
        check.due("weight", x.bench(0, 4), 44);
        check.due("keen", x.bench(1, 3), 33);
        check.due("admitted", x.bench(2, 0), 0);
        check.due("known", x.told(0, 0), 3);
        check.due("face", x.told(0, 1), 11);
        check.due("vain", x.told(1, 2), 0);
        check.due("no third", x.told(2, 0), -5);
        check.due("a new third", x.witness(45, 1, 2), 2);
        check.due("a new third", x.told(2, 3), 4);
        check.due("again", x.back(), 2);
        check.due("again", x.count(0), 2);
    }

    private static void imagesLeaveTheRest() {
        HandkerchiefsDropped x = new HandkerchiefsDropped();
        check.due("image", x.image(), 0);
        Check.read(x, "looks 7;waits 7;drops 7;");
        Check.put(x, "abc");
        Check.fill(x, 0, 0, 0, 0);
        x.witness(50, 1, 1);
        x.drop(0);
        x.hour();
        check.due("vain", x.told(0, 2), 1);
        check.due("back", x.back(), 0);
        check.due("texts stay", x.count(3), 2);
        check.due("the tape stays", x.count(5), 3);
        check.due("sheets stay", x.judge(0), -1);
        x.witness(0, 1, 1);
        check.due("0 as one comes", x.told(0, 2), 0);
        check.due("a later image", x.image(), 1);
        check.due("is the one", x.back(), 1);
    }
}
