import java.math.BigInteger;

/** The boundary cases of promises 32 to 35, sentence by sentence: what is quoted is the document's. */
public final class LotsEdgesTest {
    private static final long NO = HandkerchiefsDropped.NO;
    private static final Check check = new Check("LotsEdgesTest");

    public static void main(String[] args) {
        promise32DrawnRefuses();
        promise32DrawnOfNobody();
        promise32DrawnTenHours();
        promise32DrawnLots();
        promise32DrawnIfSuch();
        promise32DrawnSheCan();
        promise33OddsRefuses();
        promise33OddsLeast();
        promise33OddsPast99999();
        promise33OddsLowest();
        promise34Image();
        promise34ImageIsTheLast();
        promise35BackOfNone();
        promise35BackOfAll();
        promise35BackKeepsVain();
        promise35BackOfWitnesses();
        promise35BackAgain();
        promise35BackLeaves();
        check.end();
    }

    /** Lot number i (from 0) by a seed, modulo 8, by the document's words. */
    private static int lot(long seed, int i) {
        long lot = seed + 1;
        for (int k = 0; k <= i; k++) {
            lot = lot * 48271 % 2147483647L;
        }
        return (int) (lot % 8);
    }

    /** So many witnesses of fact p each, of the weight 2 to the power p, for whom all stoop at once. */
    private static HandkerchiefsDropped many(int witnesses) {
        HandkerchiefsDropped x = new HandkerchiefsDropped();
        for (int p = 0; p < witnesses; p++) {
            x.court(0, p, 1 << p);
            x.witness(0, 1 << p, 99);
        }
        return x;
    }

    private static int factsOf(long seed, int witnesses) {
        int facts = 0;
        for (int i = 0; i < 10; i++) {
            facts |= lot(seed, i) < witnesses ? 1 << lot(seed, i) : 0;
        }
        return facts;
    }

    private static void promise32DrawnRefuses() {
        HandkerchiefsDropped x = many(6);
        for (int seed : Check.outside(0, 99999)) {
            check.due("-5000: seed", x.drawn(seed, 0), -5000);
        }
        for (int what : Check.outside(0, 1)) {
            check.due("-5000: what", x.drawn(0, what), -5000);
        }
        check.due("SEED 0", x.drawn(0, 1), factsOf(0, 6));
        check.due("SEED 99999", x.drawn(99999, 1), factsOf(99999, 6));
        check.due("SEED 99999: VERDICT", x.drawn(99999, 0), factsOf(99999, 6));
    }

    private static void promise32DrawnOfNobody() {
        HandkerchiefsDropped x = new HandkerchiefsDropped();
        x.court(0, 3, -7);
        x.court(3, 0, 8);
        for (int seed = 0; seed < 20; seed++) {
            check.due("no WITNESSES: VERDICT", x.drawn(seed, 0), -7);
            check.due("no WITNESSES: ADMITTED", x.drawn(seed, 1), 8);
        }
    }

    private static void promise32DrawnTenHours() {
        for (int hour = 9; hour < 11; hour++) {
            HandkerchiefsDropped x = new HandkerchiefsDropped();
            x.witness(0, 1, 0);
            Check.rule(x, "looks 99*(hour=" + hour + ");waits 99;drops 0;");
            x.drop(0);
            check.due("ten HOURS: 0 to 9, of " + hour, x.drawn(5, 1), hour == 9 ? 1 : 0);
            check.due("in thought", x.count(1), 0);
            check.due("in thought", x.count(2), 1);
        }
    }

    private static void promise32DrawnLots() {
        HandkerchiefsDropped x = many(6);
        for (int i = 0; i < 10; i++) {
            // Each waits 1 hour, and is picked up in hour i alone: so just the lot ahead of it brings its fact.
            HandkerchiefsDropped y = many(6);
            Check.rule(y, "looks 99*(hour=" + i + ");waits 1;drops 0;");
            for (int seed = 0; seed < 8; seed++) {
                int lot = lot(seed, i);
                check.due("LOT " + i + " by " + seed, y.drawn(seed, 1), lot < 6 ? 1 << lot : 0);
            }
        }
        for (int seed = 0; seed < 30; seed++) {
            check.due("all LOTS by " + seed, x.drawn(seed, 1), factsOf(seed, 6));
        }
    }

    private static void promise32DrawnIfSuch() {
        for (int witnesses = 1; witnesses <= 6; witnesses++) {
            HandkerchiefsDropped x = many(witnesses);
            for (int seed = 0; seed < 10; seed++) {
                check.due("if there is such a one of " + witnesses, x.drawn(seed, 1), factsOf(seed, witnesses));
            }
        }
    }

    private static void promise32DrawnSheCan() {
        HandkerchiefsDropped x = many(6);
        for (int p = 0; p < 6; p++) {
            x.put(p, 0, 0);
        }
        check.due("no FACT is KNOWN", x.drawn(7, 1), 0);
        HandkerchiefsDropped y = many(6);
        Check.rule(y, "looks 99*(hour=9);waits 99;drops 0;");
        y.put(0, 0, 512);
        for (int h = 0; h < 8; h++) {
            y.drop(0);
        }
        check.due("all are there", y.drawn(7, 1), 512);
        y.burn(4);
        int first = 0;
        while (lot(7, first) > 5) {
            first++;
        }
        int fact = lot(7, first) == 0 ? 512 : 1 << lot(7, first);
        check.due("room for the first alone", y.drawn(7, 1), 512 | fact);
    }

    private static void promise33OddsRefuses() {
        HandkerchiefsDropped x = many(6);
        for (int seed : Check.outside(0, 99999)) {
            check.due("NO: seed", x.odds(seed, 1, 0, 0), NO);
        }
        for (int seeds : Check.outside(1, 40)) {
            check.due("NO: seeds", x.odds(0, seeds, 0, 0), NO);
        }
        for (int least : Check.outside(-999, 999)) {
            check.due("NO: least", x.odds(0, 1, least, 1), NO);
        }
        for (int part : Check.outside(0, 1)) {
            check.due("NO: part", x.odds(0, 1, 0, part), NO);
        }
    }

    private static void odds(String what, HandkerchiefsDropped x, int seed, int seeds, int least, int above, int below) {
        check.due(what + ", above the line", x.odds(seed, seeds, least, 0), above);
        check.due(what + ", below the line", x.odds(seed, seeds, least, 1), below);
    }

    private static void promise33OddsLeast() {
        HandkerchiefsDropped x = new HandkerchiefsDropped();
        for (int f = 0; f < 10; f++) {
            x.court(0, f, 99);
        }
        x.court(3, 0, 1023);
        odds("990 is 990 or more", x, 0, 1, 990, 1, 1);
        odds("990 is not 991 or more", x, 0, 1, 991, 0, 1);
        odds("least 999", x, 0, 1, 999, 0, 1);
        odds("least -999", x, 0, 1, -999, 1, 1);
        for (int f = 0; f < 10; f++) {
            x.court(0, f, -99);
        }
        odds("-990 is -990 or more", x, 0, 40, -990, 1, 1);
        odds("-990 is not -989 or more", x, 0, 40, -989, 0, 1);
        odds("-990 is -999 or more", x, 0, 40, -999, 1, 1);
    }

    private static void promise33OddsPast99999() {
        HandkerchiefsDropped x = many(6);
        for (int seeds = 1; seeds <= 40; seeds++) {
            int many = 0;
            for (int i = 0; i < seeds; i++) {
                many += factsOf(99999 + i, 6) >= 50 ? 1 : 0;
            }
            int shared = BigInteger.valueOf(many).gcd(BigInteger.valueOf(seeds)).intValue();
            odds("they may pass 99999, of " + seeds, x, 99999, seeds, 50, many / shared, seeds / shared);
        }
    }

    private static void promise33OddsLowest() {
        HandkerchiefsDropped x = many(6);
        odds("of one: all", x, 0, 1, factsOf(0, 6), 1, 1);
        odds("of one: none", x, 0, 1, factsOf(0, 6) + 1, 0, 1);
        odds("all of 40", x, 0, 40, 0, 1, 1);
        odds("none of 40", x, 0, 40, 64, 0, 1);
        odds("nobody is there, all of 39", new HandkerchiefsDropped(), 0, 39, 0, 1, 1);
        odds("nobody is there, none of 39", new HandkerchiefsDropped(), 0, 39, 1, 0, 1);
    }

    private static void promise34Image() {
        for (int witnesses = 0; witnesses <= 6; witnesses++) {
            HandkerchiefsDropped x = many(witnesses);
            check.due("how many WITNESSES", x.image(), witnesses);
            check.due("what is kept is there still", x.count(0), witnesses);
        }
    }

    private static void promise34ImageIsTheLast() {
        HandkerchiefsDropped x = new HandkerchiefsDropped();
        x.court(0, 0, 1);
        x.image();
        x.court(0, 0, 2);
        x.image();
        x.court(0, 0, 3);
        x.back();
        check.due("the last one is kept", x.bench(0, 0), 2);
        x.court(0, 0, 4);
        check.due("of none", x.image(), 0);
        x.back();
        check.due("as it was then", x.bench(0, 0), 4);
    }

    private static void promise35BackOfNone() {
        HandkerchiefsDropped x = many(2);
        x.court(2, 0, 77);
        check.due("STATE: there is none", x.back(), -3);
        check.due("a refusal leaves WITNESSES", x.count(0), 2);
        check.due("a refusal leaves the HOUR", x.count(1), 77);
        check.due("STATE still", x.back(), -3);
    }

    private static void promise35BackOfAll() {
        HandkerchiefsDropped x = many(6);
        Check.read(x, "looks 1;waits 1;drops 1;");
        Check.rule(x, "looks 2;waits 2;drops 2;");
        x.court(2, 0, 999);
        x.court(3, 0, 1023);
        for (int h = 0; h < 8; h++) {
            x.drop(h % 6);
        }
        x.image();
        x.force(1);
        x.court(2, 0, 0);
        x.court(3, 0, 0);
        for (int f = 0; f < 10; f++) {
            x.court(0, f, -99);
        }
        for (int i = 0; i < 6; i++) {
            x.court(1, i, 0);
            x.put(i, 0, 3);
            x.put(i, 1, 3);
        }
        x.burn(0);
        x.burn(7);
        check.due("how many there are", x.back(), 6);
        check.due("HOUR", x.count(1), 999);
        check.due("ADMITTED", x.bench(2, 0), 1023);
        check.due("THE LAW", x.count(4), 2);
        for (int f = 0; f < 10; f++) {
            check.due("WEIGHT of " + f, x.bench(0, f), f < 6 ? 1 << f : 0);
        }
        for (int i = 0; i < 6; i++) {
            check.due("how KEEN " + i + " is", x.bench(1, i), 50);
            check.due("KNOWN of " + i, x.told(i, 0), 1 << i);
            check.due("FACE of " + i, x.told(i, 1), 99);
        }
        for (int h = 0; h < 8; h++) {
            check.due("HANDKERCHIEF " + h + " whose", x.linen(h, 0), h % 6);
            check.due("HANDKERCHIEF " + h + " of which FACT", x.linen(h, 1), h % 6);
            check.due("HANDKERCHIEF " + h + " LEFT", x.linen(h, 2), 2);
        }
    }

    private static void promise35BackKeepsVain() {
        HandkerchiefsDropped x = new HandkerchiefsDropped();
        x.witness(50, 1, 0);
        x.drop(0);
        x.hour();
        x.drop(0);
        x.image();
        x.hour();
        check.due("VAIN 2", x.told(0, 2), 2);
        x.back();
        check.due("VAIN as in THE IMAGE", x.told(0, 2), 1);
        check.due("HANDKERCHIEFS as in THE IMAGE", x.linen(0, 2), 1);
        check.due("HOUR as in THE IMAGE", x.count(1), 1);
    }

    private static void promise35BackOfWitnesses() {
        HandkerchiefsDropped x = new HandkerchiefsDropped();
        x.witness(11, 1, 10);
        x.image();
        for (int p = 1; p < 6; p++) {
            x.witness(50, 2, 20);
        }
        x.drop(1);
        x.hour();
        x.drop(1);
        check.due("FULL ahead", x.witness(0, 0, 0), -4);
        check.due("WITNESSES that came since are none", x.back(), 1);
        for (int p = 1; p < 6; p++) {
            check.due("none such", x.told(p, 0), -5);
            check.due("none such", x.drop(p), -5);
            check.due("none such", x.taken(p, 0), -11);
        }
        check.due("nor are their HANDKERCHIEFS", x.count(2), 0);
        check.due("who was there is as she was", x.told(0, 3) * 10 + x.told(0, 4), 11);
        check.due("there is room again", x.witness(42, 4, 30), 1);
        check.due("a new one's KIND", x.told(1, 3), 4);
        check.due("a new one's MORE", x.told(1, 4), 2);
        check.due("a new one's VAIN", x.told(1, 2), 0);
        check.due("a new one's FACE", x.told(1, 1), 30);
        check.due("a new one's KNOWN", x.told(1, 0), 4);
    }

    private static void promise35BackAgain() {
        HandkerchiefsDropped x = many(1);
        x.drop(0);
        x.image();
        for (int i = 0; i < 3; i++) {
            check.due("back", x.back(), 1);
            check.due("WEIGHT", x.bench(0, 0), 1);
            check.due("KEEN", x.bench(1, 0), 50);
            check.due("FACE", x.told(0, 1), 99);
            check.due("LEFT", x.linen(0, 2), 6);
            check.due("ADMITTED", x.bench(2, 0), 0);
            x.court(0, 0, 9);
            x.court(1, 0, 1);
            x.put(0, 1, 2);
            x.hour();
            x.hour();
            x.witness(0, 0, 0);
        }
    }

    private static void promise35BackLeaves() {
        HandkerchiefsDropped x = new HandkerchiefsDropped();
        Check.fill(x, 0, 2, 7);
        x.image();
        Check.fill(x, 0, 0, 0);
        x.sheet(1, 0, 0);
        Check.put(x, "looks 3;waits");
        x.back();
        check.due("THE TAPE is not kept", x.count(5), 13);
        check.due("SHEETS are not kept", x.judge(0), -1);
        check.due("SHEETS are not kept", x.judge(1), -1);
        Check.put(x, " 3;drops 3;");
        check.due("a TEXT", x.text(), 1);
        check.due("back", x.back(), 0);
        check.due("TEXTS are not kept", x.count(3), 2);
        check.due("its number is taken", x.force(1), 0);
        x.back();
        check.due("THE LAW is kept", x.count(4), 0);
    }
}
