/** The boundary cases of Terms 2 and of promises 14 to 19, sentence by sentence: what is quoted is the document's. */
public final class HoursEdgesTest {
    private static final Check check = new Check("HoursEdgesTest");

    public static void main(String[] args) {
        promise14Drop();
        promise14DropRefuses();
        promise14TheFirstThatIsNot();
        promise15HourOfNothing();
        promise15LastHour();
        promise15OneFactTwice();
        promise15LeftEnds();
        promise15VainAtMost();
        promise15TwoInVainAtOnce();
        promise16Burn();
        promise17Run();
        promise17RunEnds();
        promise17RunVain();
        promise18When();
        promise18WhenEnds();
        promise19Fate();
        promise19FateEnds();
        thoughtPasses999();
        check.end();
    }

    private static void promise14Drop() {
        HandkerchiefsDropped x = new HandkerchiefsDropped();
        x.witness(0, 1023, 0);
        x.court(2, 0, 9);
        check.due("which HANDKERCHIEF", x.drop(0), 0);
        check.due("of the FACT she DROPS", x.linen(0, 1), 9);
        Check.rule(x, "looks 0;waits 0;drops 0;");
        check.due("LEFT stays as told ahead", x.linen(0, 2), 6);
        check.due("the next one", x.drop(0), 1);
        check.due("LEFT 1 .. 99, else the bound", x.linen(1, 2), 1);
        Check.rule(x, "looks 0;waits 99;drops 0;");
        x.drop(0);
        check.due("LEFT 99", x.linen(2, 2), 99);
        check.due("LETTING FALL is no HOUR", x.count(1), 9);
        check.due("nor does it ADMIT", x.bench(2, 0), 0);
    }

    private static void promise14DropRefuses() {
        HandkerchiefsDropped x = new HandkerchiefsDropped();
        check.due("-5: no WITNESSES", x.drop(0), -5);
        x.witness(0, 1, 0);
        x.witness(0, 0, 0);
        for (int p : Check.outside(0, 1)) {
            check.due("-5: none such", x.drop(p), -5);
        }
        check.due("-1: no FACT is KNOWN", x.drop(1), -1);
        check.due("none fell", x.count(2), 0);
        for (int h = 0; h < 8; h++) {
            x.drop(0);
        }
        check.due("FULL: all are there", x.drop(0), -4);
        check.due("-5, then FULL", x.drop(2), -5);
        check.due("-1, then FULL", x.drop(1), -1);
        check.due("8 at most", x.count(2), 8);
        x.burn(7);
        check.due("7 are not all", x.drop(0), 7);
    }

    private static void promise14TheFirstThatIsNot() {
        for (int gone = 0; gone < 8; gone++) {
            HandkerchiefsDropped x = new HandkerchiefsDropped();
            x.witness(0, 1, 0);
            for (int h = 0; h < 8; h++) {
                x.drop(0);
            }
            x.burn(gone);
            x.burn(7);
            check.due("the first HANDKERCHIEF that isn't there", x.drop(0), gone);
            check.due("then the last, if it is another", x.drop(0), gone == 7 ? -4 : 7);
        }
    }

    private static void promise15HourOfNothing() {
        HandkerchiefsDropped x = new HandkerchiefsDropped();
        check.due("no WITNESSES, no HANDKERCHIEFS", x.hour(), 0);
        check.due("HOUR is 1 more", x.count(1), 1);
        for (int i = 0; i < 6; i++) {
            check.due("who passes in HOUR " + (i + 1), x.bench(4, 0), (i + 1) % 6);
            x.hour();
        }
    }

    private static void promise15LastHour() {
        HandkerchiefsDropped x = new HandkerchiefsDropped();
        x.witness(0, 512, 99);
        x.court(2, 0, 998);
        x.drop(0);
        check.due("HOUR 998 may pass", x.hour(), 512);
        x.drop(0);
        x.court(3, 0, 0);
        check.due("STATE: HOUR is 999", x.hour(), -3);
        check.due("a refusal leaves the HOUR", x.count(1), 999);
        check.due("a refusal leaves ADMITTED", x.bench(2, 0), 0);
        check.due("a refusal leaves the HANDKERCHIEF", x.linen(0, 2), 6);
        x.court(2, 0, 0);
        check.due("HOUR 0 again may pass", x.hour(), 512);
    }

    private static void promise15OneFactTwice() {
        HandkerchiefsDropped x = new HandkerchiefsDropped();
        x.witness(0, 4, 99);
        x.witness(0, 512, 99);
        for (int h = 0; h < 7; h++) {
            x.drop(0);
        }
        x.drop(1);
        check.due("all eight, of two FACTS", x.hour(), 4 | 512);
        check.due("none is there", x.count(2), 0);
        x.drop(0);
        check.due("what is ADMITTED is told again", x.hour(), 4);
        check.due("ADMITTED once", x.bench(2, 0), 4 | 512);
    }

    private static void promise15LeftEnds() {
        HandkerchiefsDropped x = new HandkerchiefsDropped();
        x.witness(50, 1, 0);
        x.drop(0);
        check.due("LEFT 1: nobody STOOPS", x.hour(), 0);
        check.due("is it 0, it isn't there any more", x.count(2), 0);
        check.due("VAIN is 1 more", x.told(0, 2), 1);
        x.drop(0);
        x.court(1, 1, 99);
        Check.rule(x, "looks 99;waits 1;drops 0;");
        x.witness(0, 2, 0);
        x.drop(1);
        check.due("LEFT 1, but STOOPS", x.hour(), 2);
        check.due("not in vain", x.told(1, 2), 0);
        check.due("the other's is", x.told(0, 2), 2);
    }

    private static void promise15VainAtMost() {
        HandkerchiefsDropped x = new HandkerchiefsDropped();
        x.witness(50, 1, 0);
        for (int i = 0; i < 98; i++) {
            x.drop(0);
            x.hour();
        }
        check.due("VAIN 98", x.told(0, 2), 98);
        x.drop(0);
        x.drop(0);
        check.due("99 at most, in thought", x.run(1, 10), 99);
        x.hour();
        check.due("99 at most", x.told(0, 2), 99);
        x.drop(0);
        x.hour();
        check.due("99 still", x.told(0, 2), 99);
    }

    private static void promise15TwoInVainAtOnce() {
        HandkerchiefsDropped x = new HandkerchiefsDropped();
        for (int p = 0; p < 6; p++) {
            x.witness(50, 1, 0);
        }
        x.drop(0);
        x.drop(5);
        x.drop(5);
        x.hour();
        check.due("one of hers", x.told(0, 2), 1);
        check.due("two of hers", x.told(5, 2), 2);
        check.due("none of hers", x.told(1, 2), 0);
    }

    private static void promise16Burn() {
        HandkerchiefsDropped x = new HandkerchiefsDropped();
        x.witness(0, 512, 99);
        for (int h : Check.outside(0, 7)) {
            check.due("-6: no such number", x.burn(h), -6);
        }
        for (int h = 0; h < 8; h++) {
            check.due("-6: not there yet", x.burn(h), -6);
        }
        for (int h = 0; h < 8; h++) {
            x.put(0, 0, 512 >> h);
            x.drop(0);
        }
        for (int h = 7; h >= 0; h--) {
            check.due("of which FACT it was", x.burn(h), 9 - h);
            check.due("-6: it isn't there any more", x.burn(h), -6);
            check.due("the others are", x.count(2), h);
        }
        check.due("that is not ADMITTED", x.bench(2, 0), 0);
        check.due("nor in vain", x.told(0, 2), 0);
    }

    private static void promise17Run() {
        HandkerchiefsDropped x = Check.onlyInHour(0, 1);
        x.drop(0);
        for (int n : Check.outside(0, 40)) {
            check.due("-5000: n", x.run(n, 0), -5000);
        }
        for (int what : Check.outside(0, 2)) {
            check.due("-5000: what", x.run(0, what), -5000);
        }
        for (int what = 3; what < 10; what++) {
            check.due("-5000: what " + what, x.run(0, what), -5000);
        }
        check.due("of the WITNESS that there is", x.run(0, 10), 0);
        check.due("-5000: none such", x.run(0, 11), -5000);
        check.due("of 0 HOURS: ADMITTED", x.run(0, 0), 0);
        check.due("of 0 HOURS: VERDICT", x.run(0, 1), 0);
        check.due("of 0 HOURS: HANDKERCHIEFS", x.run(0, 2), 1);
        check.due("of 1 HOUR: ADMITTED", x.run(1, 0), 1);
        check.due("of 1 HOUR: VERDICT", x.run(1, 1), 5);
        check.due("of 1 HOUR: HANDKERCHIEFS", x.run(1, 2), 0);
        check.due("-5000: no WITNESS at all", new HandkerchiefsDropped().run(0, 10), -5000);
    }

    private static void promise17RunEnds() {
        HandkerchiefsDropped x = Check.onlyInHour(39, 1);
        x.drop(0);
        check.due("39 HOURS are 0 to 38", x.run(39, 0), 0);
        check.due("40 HOURS are 0 to 39", x.run(40, 0), 1);
        HandkerchiefsDropped y = Check.onlyInHour(40, 1);
        y.drop(0);
        check.due("40 HOURS end ahead of 40", y.run(40, 0), 0);
    }

    private static void promise17RunVain() {
        HandkerchiefsDropped x = new HandkerchiefsDropped();
        for (int p = 0; p < 6; p++) {
            x.witness(50 + p, 1, 0);
            x.drop(p);
        }
        for (int p = 0; p < 6; p++) {
            check.due("just there still", x.run(p, 10 + p), 0);
            check.due("VAIN of WITNESS " + p, x.run(p + 1, 10 + p), 1);
        }
        check.due("the last WITNESS", x.run(40, 15), 1);
        check.due("-5000: none such", x.run(40, 16), -5000);
    }

    private static void promise18When() {
        HandkerchiefsDropped x = Check.onlyInHour(0, 1);
        for (int what : Check.outside(-1, 9)) {
            check.due("-7: what", x.when(what), -7);
        }
        check.due("no HANDKERCHIEF is there: behind 0", x.when(-1), 0);
        x.drop(0);
        check.due("picked up behind 1", x.when(0), 1);
        check.due("none is there behind 1", x.when(-1), 1);
        check.due("FACT 9: not by then", x.when(9), -1);
        x.court(3, 0, 512);
        check.due("FACT 9 is ADMITTED: behind 0", x.when(9), 0);
        check.due("-1 is asked of all HANDKERCHIEFS, not of the first", twoLie().when(-1), 6);
    }

    /** One is picked up in the first hour, the other lies for six. */
    private static HandkerchiefsDropped twoLie() {
        HandkerchiefsDropped x = new HandkerchiefsDropped();
        x.witness(0, 1, 99);
        x.witness(0, 2, 0);
        x.drop(0);
        x.drop(1);
        return x;
    }

    private static void promise18WhenEnds() {
        HandkerchiefsDropped x = Check.onlyInHour(59, 1);
        x.drop(0);
        check.due("in the 60th HOUR", x.when(0), 60);
        check.due("none is there", x.when(-1), 60);
        HandkerchiefsDropped y = Check.onlyInHour(60, 1);
        y.drop(0);
        check.due("in the 61st: not by then", y.when(0), -1);
        check.due("it is there: not by then", y.when(-1), -1);
        y.court(2, 0, 1);
        check.due("an HOUR later it is the 60th", y.when(0), 60);
    }

    private static void promise19Fate() {
        HandkerchiefsDropped x = Check.onlyInHour(0, 1);
        for (int h : Check.outside(0, 7)) {
            check.due("-6: no such number", x.fate(h, 0), -6);
            check.due("-6 ahead of what", x.fate(h, 2), -6);
        }
        check.due("-6: not there", x.fate(0, 0), -6);
        check.due("-6: not there, ahead of what", x.fate(0, -1), -6);
        x.drop(0);
        for (int what : Check.outside(0, 1)) {
            check.due("-7: what", x.fate(0, what), -7);
        }
        check.due("GENTLEMAN 0", x.fate(0, 0), 0);
        check.due("behind 1", x.fate(0, 1), 1);
        for (int h = 1; h < 8; h++) {
            x.drop(0);
        }
        check.due("the last HANDKERCHIEF", x.fate(7, 1), 1);
    }

    private static void promise19FateEnds() {
        HandkerchiefsDropped x = Check.onlyInHour(98, 1);
        x.drop(0);
        check.due("in her last HOUR: GENTLEMAN 98 modulo 6", x.fate(0, 0), 2);
        check.due("behind 99", x.fate(0, 1), 99);
        HandkerchiefsDropped y = Check.onlyInHour(99, 1);
        y.drop(0);
        check.due("an HOUR too late: nobody", y.fate(0, 0), -1);
        check.due("behind 99", y.fate(0, 1), 99);
        Check.rule(y, "looks 0;waits 0;drops 0;");
        y.drop(0);
        check.due("LEFT 1: nobody", y.fate(1, 0), -1);
        check.due("LEFT 1: behind 1", y.fate(1, 1), 1);
    }

    private static void thoughtPasses999() {
        HandkerchiefsDropped x = Check.onlyInHour(1001, 1);
        x.court(2, 0, 999);
        x.drop(0);
        check.due("run, in thought", x.run(2, 1), 0);
        check.due("run, in thought", x.run(3, 1), 5);
        check.due("when, in thought", x.when(0), 3);
        check.due("fate, in thought", x.fate(0, 0), 1001 % 6);
        check.due("fate, in thought", x.fate(0, 1), 3);
        check.due("gallant, in thought", x.gallant(3, 1), 1);
        check.due("film, in thought", x.film(0, 3), 3);
        check.due("judge, in thought", x.judge(0), -1);
        check.due("faces, in thought", x.faces(0, 0, 0), 100);
        check.due("drawn, in thought", x.drawn(0, 1), 1);
        check.due("cast, in thought", x.cast(0, 1), 5);
        check.due("HOUR itself stays", x.count(1), 999);
        x.burn(0);
        check.due("advise, in thought", x.advise(3, 0), 0);
        check.due("advise, in thought", x.advise(2, 0), -1);
    }
}
