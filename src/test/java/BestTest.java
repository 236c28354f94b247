/** Promises 20 to 24: what is best. */
public final class BestTest {
    private static final Check check = new Check("BestTest");

    public static void main(String[] args) {
        advises();
        advisesFirstOfLike();
        advisesOnlyWhoCan();
        turns();
        gallants();
        casts();
        castsRows();
        castsThen();
        means();
        check.end();
    }

    /** Three witnesses at whom all stoop, of facts 0 (5), 1 (-7), 2 (9); nobody stoops for a fourth, of fact 3 (99). */
    private static HandkerchiefsDropped plain() {
        HandkerchiefsDropped x = new HandkerchiefsDropped();
        x.court(0, 0, 5);
        x.court(0, 1, -7);
        x.court(0, 2, 9);
        x.court(0, 3, 99);
        x.witness(0, 1, 90);
        x.witness(0, 2, 90);
        x.witness(0, 4, 90);
        x.witness(50, 8, 90);
        return x;
    }

    private static void advises() {
        HandkerchiefsDropped x = plain();
        check.due("who", x.advise(1, 0), 2);
        check.due("verdict", x.advise(1, 1), 9);
        check.due("who, behind none", x.advise(0, 0), -1);
        check.due("verdict, behind none", x.advise(0, 1), 0);
        x.drop(2);
        check.due("more than so", x.advise(40, 0), 0);
        check.due("verdict", x.advise(40, 1), 14);
        check.due("none lies there more", x.count(2), 1);
        x.drop(0);
        check.due("nobody", x.advise(5, 0), -1);
        check.due("as so", x.advise(5, 1), 14);
        check.due("n", x.advise(41, 0), -5000);
        check.due("n", x.advise(-1, 0), -5000);
        check.due("what", x.advise(1, 2), -5000);
        check.due("what", x.advise(1, -1), -5000);
        x.court(3, 0, 2);
        check.due("below nothing", x.advise(0, 1), -7);
    }

    private static void advisesFirstOfLike() {
        HandkerchiefsDropped x = plain();
        x.put(0, 0, 4);
        check.due("the first", x.advise(1, 0), 0);
        x.court(0, 2, -9);
        check.due("nobody", x.advise(1, 0), -1);
        x.court(0, 2, 0);
        check.due("like is not more", x.advise(1, 0), -1);
    }

    private static void advisesOnlyWhoCan() {
        HandkerchiefsDropped x = plain();
        x.put(2, 0, 0);
        check.due("she knows nothing", x.advise(1, 0), 0);
        x.witness(0, 0, 90);
        x.witness(0, 4, 90);
        check.due("the sixth", x.advise(1, 0), 5);
        check.due("the sixth", x.cast(1, 0), 6);
        x.put(5, 0, 0);
        for (int h = 0; h < 8; h++) {
            x.drop(3);
        }
        check.due("no room", x.advise(1, 0), -1);
        check.due("as so", x.advise(1, 1), 0);
    }

    private static void turns() {
        HandkerchiefsDropped x = new HandkerchiefsDropped();
        check.due("none", x.turn(0), -1);
        check.due("none", x.turn(1), -1);
        x.court(0, 0, -30);
        x.court(0, 1, 10);
        x.court(0, 2, 20);
        x.court(0, 3, 20);
        x.court(0, 9, 10);
        check.due("the least of one", x.turn(0), 2);
        check.due("one", x.turn(1), 1);
        x.court(3, 0, 1);
        check.due("two are not enough for 30 of 40", x.turn(0), 4 | 8);
        check.due("of two", x.turn(1), 2);
        x.court(0, 0, -40);
        check.due("three, the least as bits", x.turn(0), 2 | 4 | 8);
        check.due("of three", x.turn(1), 3);
        x.court(0, 0, -60);
        check.due("nothing helps: 60 of 60", x.turn(0), -1);
        check.due("none", x.turn(1), -1);
        x.court(3, 0, 4);
        check.due("the other way", x.turn(0), 1);
        x.court(0, 0, -20);
        check.due("0 is not above 0", x.turn(0), 1);
        x.court(0, 0, -19);
        check.due("1 is above 0", x.turn(0), -1);
        x.court(3, 0, 1 | 4);
        check.due("of the verdict 1", x.turn(0), -1);
        x.court(0, 4, -1);
        check.due("of the verdict 1", x.turn(0), 16);
        x.court(0, 4, 0);
        x.court(3, 0, 4);
        check.due("what", x.turn(2), -2);
        check.due("what", x.turn(-1), -2);
        check.due("nothing changed", x.bench(2, 0), 4);
    }

    private static void gallants() {
        HandkerchiefsDropped x = new HandkerchiefsDropped();
        Check.allKeen(x, 0);
        x.witness(0, 3, 60);
        x.drop(0);
        x.court(2, 0, 1);
        x.drop(0);
        check.due("the first by whom both are", x.gallant(3, 0), 1);
        check.due("both", x.gallant(3, 1), 2);
        check.due("none passes", x.gallant(0, 0), -1);
        check.due("none", x.gallant(0, 1), 0);
        check.due("hour 1 alone", x.gallant(1, 0), 1);
        x.court(1, 1, 60);
        check.due("not more than so", x.gallant(1, 0), -1);
        check.due("as so", x.gallant(1, 1), 2);
        check.due("who is how keen stays", x.bench(1, 0), 0);
        check.due("40 hours", x.gallant(40, 1), 2);
        check.due("n", x.gallant(41, 0), -2);
        check.due("n", x.gallant(-1, 0), -2);
        check.due("what", x.gallant(1, 2), -2);
        check.due("what", x.gallant(1, -1), -2);
        x.court(1, 1, 0);
        x.court(3, 0, 512);
        check.due("what is admitted counts", x.gallant(3, 1), 3);
        x.court(2, 0, 4);
        check.due("the first that passes is not the first by number", x.gallant(3, 0), 0);
    }

    private static void casts() {
        HandkerchiefsDropped x = plain();
        check.due("none", x.cast(0, 0), 0);
        check.due("none's verdict", x.cast(0, 1), 0);
        check.due("one", x.cast(1, 0), 3);
        check.due("one's verdict", x.cast(1, 1), 9);
        check.due("two, the first first", x.cast(2, 0), 13);
        check.due("two's verdict", x.cast(2, 1), 14);
        check.due("three bring no more", x.cast(3, 0), 13);
        check.due("n", x.cast(4, 0), -5000);
        check.due("n", x.cast(-1, 0), -5000);
        check.due("what", x.cast(0, 2), -5000);
        check.due("what", x.cast(0, -1), -5000);
        check.due("nothing changed", x.count(2), 0);
        check.due("nothing changed", x.count(1), 0);
        x.court(0, 1, 7);
        check.due("three", x.cast(3, 0), 123);
        check.due("three's verdict", x.cast(3, 1), 21);
    }

    private static void castsRows() {
        HandkerchiefsDropped x = new HandkerchiefsDropped();
        // By the hour 0 she drops fact 0 (-1), an hour later fact 1 (50).
        x.court(0, 0, -1);
        x.court(0, 1, 50);
        x.court(0, 2, 3);
        x.witness(0, 3, 90);
        x.witness(0, 4, 90);
        check.due("the other first", x.cast(2, 0), 21);
        check.due("its verdict", x.cast(2, 1), 53);
        check.due("no one twice", x.cast(3, 0), 21);
        // Ten hours behind one row, twelve behind all: hour 12 is just too late for a row of none.
        HandkerchiefsDropped y = new HandkerchiefsDropped();
        Check.allKeen(y, 60);
        y.court(0, 0, 7);
        y.witness(0, 1, 50);
        Check.rule(y, "looks (11<hour)*99;waits 99;drops 0;");
        y.drop(0);
        check.due("none: hours 0 to 11", y.cast(0, 1), 0);
        check.due("one: hours 0 to 12", y.cast(1, 1), 7);
        check.due("one", y.cast(1, 0), 1);
    }

    private static void castsThen() {
        HandkerchiefsDropped x = plain();
        for (int h = 0; h < 7; h++) {
            x.drop(3);
        }
        x.put(3, 0, 0);
        Check.rule(x, "looks 90;waits 50;drops 0;");
        // Those of the grey one wait 1 hour: so there is room for all behind the first.
        check.due("room then", x.cast(2, 0), 13);
        HandkerchiefsDropped y = plain();
        for (int h = 0; h < 8; h++) {
            y.drop(3);
        }
        check.due("no room now", y.cast(3, 0), 0);
        check.due("no room now", y.cast(3, 1), 0);
        HandkerchiefsDropped z = plain();
        z.put(2, 0, 0);
        check.due("she knows nothing", z.cast(3, 0), 1);
        z.court(0, 0, 0);
        check.due("of like ones the first is none", z.cast(3, 0), 0);
        z.court(3, 0, 8);
        check.due("what is admitted counts", z.cast(3, 1), 99);
    }

    private static void mean(HandkerchiefsDropped x, long above, long below) {
        check.due("above", x.mean(0), above);
        check.due("below", x.mean(1), below);
    }

    private static void means() {
        HandkerchiefsDropped x = new HandkerchiefsDropped();
        mean(x, HandkerchiefsDropped.NO, HandkerchiefsDropped.NO);
        x.court(3, 0, 512);
        x.court(0, 9, -7);
        mean(x, -7, 1);
        x.court(3, 0, 15);
        mean(x, 0, 1);
        x.court(0, 0, 6);
        mean(x, 3, 2);
        x.court(0, 1, -16);
        mean(x, -5, 2);
        x.court(0, 2, 22);
        mean(x, 3, 1);
        x.court(0, 3, 1);
        mean(x, 13, 4);
        check.due("part", x.mean(2), HandkerchiefsDropped.NO);
        check.due("part", x.mean(-1), HandkerchiefsDropped.NO);
    }
}
