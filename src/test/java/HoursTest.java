/** Promises 14 to 19: letting fall, hours, and what they bring. */
public final class HoursTest {
    private static final Check check = new Check("HoursTest");

    public static void main(String[] args) {
        drops();
        toldAhead();
        hours();
        toldAsItIsThen();
        linenByLinen();
        hourRefuses();
        vainEnds();
        burns();
        runs();
        whens();
        fates();
        longFates();
        thoughtPassesTheLastHour();
        check.end();
    }

    private static void drops() {
        HandkerchiefsDropped x = new HandkerchiefsDropped();
        x.witness(0, 1, 0);
        x.witness(0, 0, 0);
        check.due("none such", x.drop(2), -5);
        check.due("none such", x.drop(-1), -5);
        check.due("no fact", x.drop(1), -1);
        for (int h = 0; h < 8; h++) {
            check.due("drop", x.drop(0), h);
        }
        check.due("all are there", x.drop(0), -4);
        check.due("no fact ahead of full", x.drop(1), -1);
        check.due("none such ahead of full", x.drop(6), -5);
        x.burn(5);
        x.burn(2);
        check.due("the first that isn't there", x.drop(0), 2);
        check.due("the next", x.drop(0), 5);
    }

    private static void toldAhead() {
        HandkerchiefsDropped x = new HandkerchiefsDropped();
        x.witness(0, 1023, 0);
        Check.rule(x, "looks 0;waits 1+lying;drops lying;");
        x.drop(0);
        check.due("fact ahead", x.linen(0, 1), 0);
        check.due("left ahead", x.linen(0, 2), 1);
        x.drop(0);
        check.due("fact ahead", x.linen(1, 1), 1);
        check.due("left ahead", x.linen(1, 2), 2);
        x.put(0, 0, 512);
        check.due("the fact stays", x.linen(1, 1), 1);
    }

    /** Gentlemen 0 and 1 are not keen, 2 is just keen enough for face 60. */
    private static HandkerchiefsDropped slowCorridor() {
        HandkerchiefsDropped x = new HandkerchiefsDropped();
        for (int f = 0; f < 10; f++) {
            x.court(0, f, 10 * f - 5);
        }
        Check.allKeen(x, 0);
        x.court(1, 2, 40);
        x.witness(0, 7, 60);
        return x;
    }

    private static void hours() {
        HandkerchiefsDropped x = slowCorridor();
        x.drop(0);
        check.due("hour 0", x.hour(), 0);
        check.due("left", x.linen(0, 2), 5);
        x.drop(0);
        check.due("hour 1", x.hour(), 0);
        check.due("nothing is admitted", x.bench(2, 0), 0);
        check.due("hour 2", x.hour(), 3);
        check.due("admitted", x.bench(2, 0), 3);
        check.due("verdict", x.bench(3, 0), 0);
        check.due("none there", x.count(2), 0);
        check.due("not in vain", x.told(0, 2), 0);
        check.due("hour", x.count(1), 3);
        x.drop(0);
        x.court(2, 0, 2);
        check.due("what is admitted is picked up, too", x.hour(), 1);
    }

    private static void toldAsItIsThen() {
        HandkerchiefsDropped x = new HandkerchiefsDropped();
        x.witness(0, 7, 0);
        Check.allKeen(x, 40);
        Check.rule(x, "looks 40+lying*10;waits 3;drops lying;");
        x.drop(0);
        x.drop(0);
        check.due("only the first: then fewer lie there", x.hour(), 1);
        check.due("the other stays", x.linen(1, 2), 2);
        HandkerchiefsDropped y = new HandkerchiefsDropped();
        y.witness(0, 7, 0);
        Check.allKeen(y, 60);
        Check.rule(y, "looks 50-admitted*20;waits 1;drops lying;");
        y.drop(0);
        y.drop(0);
        check.due("only the first: then more is admitted", y.hour(), 1);
        check.due("the other is gone", y.count(2), 0);
        check.due("in vain", y.told(0, 2), 1);
        HandkerchiefsDropped z = new HandkerchiefsDropped();
        z.witness(0, 7, 0);
        Check.rule(z, "looks hour*50;waits 3;drops 0;");
        z.drop(0);
        check.due("hour 0", z.hour(), 0);
        check.due("the hour itself is told ahead of 1 more", z.hour(), 1);
    }

    private static void linenByLinen() {
        HandkerchiefsDropped x = new HandkerchiefsDropped();
        x.witness(0, 1, 20);
        x.witness(0, 2, 80);
        x.drop(0);
        x.drop(1);
        x.drop(0);
        check.due("only hers", x.hour(), 2);
        check.due("0", x.linen(0, 2), 5);
        check.due("1", x.linen(1, 2), -6);
        check.due("2", x.linen(2, 2), 5);
        x.court(1, 1, 80);
        check.due("who passes next is keener", x.hour(), 1);
    }

    private static void hourRefuses() {
        HandkerchiefsDropped x = new HandkerchiefsDropped();
        x.court(2, 0, 998);
        check.due("998", x.hour(), 0);
        check.due("999", x.count(1), 999);
        check.due("refused", x.hour(), -3);
        check.due("999 still", x.count(1), 999);
        x.witness(0, 1, 99);
        x.drop(0);
        check.due("refused", x.hour(), -3);
        check.due("it lies there still", x.linen(0, 2), 6);
    }

    private static void vainEnds() {
        HandkerchiefsDropped x = new HandkerchiefsDropped();
        x.witness(50, 1, 0);
        for (int i = 0; i < 13; i++) {
            for (int h = 0; h < 8; h++) {
                x.drop(0);
            }
            x.hour();
            check.due("vain", x.told(0, 2), Math.min(99, 8 * (i + 1)));
        }
        x.drop(0);
        check.due("vain in thought", x.run(1, 10), 99);
    }

    private static void burns() {
        HandkerchiefsDropped x = new HandkerchiefsDropped();
        x.witness(0, 32, 99);
        check.due("none", x.burn(0), -6);
        x.drop(0);
        check.due("which fact", x.burn(0), 5);
        check.due("gone", x.burn(0), -6);
        check.due("gone", x.linen(0, 0), -6);
        check.due("not in vain", x.told(0, 2), 0);
        check.due("not admitted", x.bench(2, 0), 0);
        check.due("none such", x.burn(8), -6);
        check.due("none such", x.burn(-1), -6);
    }

    private static void runs() {
        HandkerchiefsDropped x = slowCorridor();
        x.witness(50, 512, 0);
        x.drop(0);
        x.drop(1);
        check.due("admitted behind 2", x.run(2, 0), 0);
        check.due("admitted behind 3", x.run(3, 0), 1);
        check.due("verdict behind 2", x.run(2, 1), 0);
        check.due("verdict behind 3", x.run(3, 1), -5);
        check.due("there behind 0", x.run(0, 2), 2);
        check.due("there behind 1", x.run(1, 2), 1);
        check.due("there behind 40", x.run(40, 2), 0);
        check.due("vain behind 0", x.run(0, 11), 0);
        check.due("vain behind 1", x.run(1, 11), 1);
        check.due("vain of the other", x.run(40, 10), 0);
        check.due("n", x.run(41, 0), -5000);
        check.due("n", x.run(-1, 0), -5000);
        check.due("what", x.run(0, 3), -5000);
        check.due("what", x.run(0, -1), -5000);
        check.due("what", x.run(0, 9), -5000);
        check.due("what", x.run(0, 12), -5000);
        check.due("nothing changed", x.count(1), 0);
        check.due("nothing changed", x.count(2), 2);
        check.due("nothing changed", x.bench(2, 0), 0);
    }

    private static void whens() {
        HandkerchiefsDropped x = slowCorridor();
        check.due("none there", x.when(-1), 0);
        x.drop(0);
        check.due("fact 0", x.when(0), 3);
        check.due("none there", x.when(-1), 3);
        check.due("fact 1", x.when(1), -1);
        x.court(3, 0, 2);
        check.due("fact 1 is", x.when(1), 0);
        check.due("what", x.when(10), -7);
        check.due("what", x.when(-2), -7);
        Check.rule(x, "looks 60;waits 99;drops 0;");
        x.burn(0);
        x.court(1, 2, 0);
        x.drop(0);
        check.due("not by 60", x.when(-1), -1);
        for (int i = 0; i < 38; i++) {
            x.hour();
        }
        check.due("by 61", x.when(-1), -1);
        x.hour();
        check.due("just by 60", x.when(-1), 60);
        x.court(1, 2, 40);
        check.due("who passes in hour 44", x.when(0), 6);
    }

    private static void fates() {
        HandkerchiefsDropped x = slowCorridor();
        x.drop(0);
        check.due("who", x.fate(0, 0), 2);
        check.due("behind how many", x.fate(0, 1), 3);
        x.court(1, 2, 0);
        check.due("who", x.fate(0, 0), -1);
        check.due("behind how many", x.fate(0, 1), 6);
        x.court(1, 5, 40);
        check.due("just ahead of the end", x.fate(0, 0), 5);
        check.due("just ahead of the end", x.fate(0, 1), 6);
        check.due("what", x.fate(0, 2), -7);
        check.due("what", x.fate(0, -1), -7);
        check.due("not there", x.fate(1, 2), -6);
        check.due("not there", x.fate(8, 0), -6);
        check.due("not there", x.fate(-1, 0), -6);
    }

    private static void longFates() {
        HandkerchiefsDropped x = new HandkerchiefsDropped();
        Check.allKeen(x, 0);
        x.witness(30, 1, 60);
        x.drop(0);
        check.due("99 hours", x.fate(0, 1), 99);
        check.due("nobody", x.fate(0, 0), -1);
        Check.rule(x, "looks (97<hour)*99;waits 1;drops 0;");
        x.court(1, 2, 51);
        check.due("hour 98, half of 99 is 49", x.fate(0, 0), 2);
        check.due("hour 98", x.fate(0, 1), 99);
        x.court(1, 2, 50);
        check.due("hour 98, not keen enough", x.fate(0, 0), -1);
    }

    private static void thoughtPassesTheLastHour() {
        HandkerchiefsDropped x = new HandkerchiefsDropped();
        x.witness(0, 1, 0);
        x.court(2, 0, 999);
        Check.rule(x, "looks (1000<hour)*60;waits 9;drops 0;");
        x.drop(0);
        check.due("behind 3", x.run(3, 0), 1);
        check.due("behind 2", x.run(2, 0), 0);
        check.due("who: hour 1001", x.fate(0, 0), 1001 % 6);
    }
}
