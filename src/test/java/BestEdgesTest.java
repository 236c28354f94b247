/** The boundary cases of promises 20 to 24, sentence by sentence: what is quoted is the document's. */
public final class BestEdgesTest {
    private static final Check check = new Check("BestEdgesTest");

    public static void main(String[] args) {
        promise20AdviseRefuses();
        promise20AdviseNobody();
        promise20AdviseEnds();
        promise20AdviseLikeOnes();
        promise20AdviseSheCan();
        promise20AdviseByLying();
        promise21TurnRefuses();
        promise21TurnAtNothing();
        promise21TurnLikeOnes();
        promise21TurnOfMany();
        promise22GallantRefuses();
        promise22GallantEnds();
        promise22GallantLikeOnes();
        promise22GallantCountsFacts();
        promise23CastRefuses();
        promise23CastOfFew();
        promise23CastLikeOnes();
        promise23CastHoursBehind();
        promise23CastSheCanThen();
        promise23CastDigits();
        promise24Mean();
        promise24MeanLowest();
        check.end();
    }

    /** Six witnesses for whom all stoop, of a fact each: fact p of such a weight. */
    private static HandkerchiefsDropped six(int... weights) {
        HandkerchiefsDropped x = new HandkerchiefsDropped();
        for (int p = 0; p < weights.length; p++) {
            x.court(0, p, weights[p]);
            x.witness(0, 1 << p, 99);
        }
        return x;
    }

    private static void promise20AdviseRefuses() {
        HandkerchiefsDropped x = six(5);
        for (int n : Check.outside(0, 40)) {
            check.due("-5000: n", x.advise(n, 0), -5000);
        }
        for (int what : Check.outside(0, 1)) {
            check.due("-5000: what", x.advise(40, what), -5000);
        }
    }

    private static void promise20AdviseNobody() {
        HandkerchiefsDropped x = new HandkerchiefsDropped();
        check.due("no WITNESSES: nobody", x.advise(40, 0), -1);
        check.due("as so", x.advise(40, 1), 0);
        HandkerchiefsDropped y = six(-1, -99);
        check.due("less than so: nobody", y.advise(1, 0), -1);
        check.due("as so", y.advise(1, 1), 0);
        HandkerchiefsDropped z = six(7, 8);
        z.court(3, 0, 3);
        check.due("ADMITTED is no more: nobody", z.advise(1, 0), -1);
        check.due("as so", z.advise(1, 1), 15);
        z.court(0, 0, -99);
        check.due("as so, below 0", z.advise(1, 1), -91);
    }

    private static void promise20AdviseEnds() {
        HandkerchiefsDropped x = Check.onlyInHour(39, 1);
        check.due("behind 40", x.advise(40, 0), 0);
        check.due("behind 40, that", x.advise(40, 1), 5);
        check.due("behind 39", x.advise(39, 0), -1);
        check.due("behind 39, that", x.advise(39, 1), 0);
        HandkerchiefsDropped y = six(5);
        check.due("behind 0", y.advise(0, 0), -1);
        check.due("behind 0, that", y.advise(0, 1), 0);
        check.due("behind 1", y.advise(1, 0), 0);
    }

    private static void promise20AdviseLikeOnes() {
        check.due("of like ones the first", six(1, 7, 3, 7, 7, 6).advise(1, 0), 1);
        check.due("the last is most", six(1, 7, 3, 7, 7, 8).advise(1, 0), 5);
        check.due("that", six(1, 7, 3, 7, 7, 8).advise(1, 1), 8);
        check.due("1 is more than so", six(-1, 0, 1).advise(1, 0), 2);
    }

    private static void promise20AdviseSheCan() {
        HandkerchiefsDropped x = six(5, 9);
        x.put(1, 0, 0);
        check.due("she can't: no FACT is KNOWN", x.advise(1, 0), 0);
        x.witness(50, 512, 0);
        for (int h = 0; h < 7; h++) {
            x.drop(2);
        }
        check.due("she can: 7 are there", x.advise(1, 0), 0);
        x.drop(2);
        check.due("she can't: all are there", x.advise(1, 0), -1);
        check.due("as so", x.advise(1, 1), 0);
        check.due("8 are there still", x.count(2), 8);
    }

    private static void promise20AdviseByLying() {
        HandkerchiefsDropped x = six(5, -9, 0);
        x.put(1, 0, 4);
        Check.rule(x, "looks lying*25;waits 9;drops 0;");
        x.drop(0);
        check.due("so: one looks 25", x.run(1, 1), 0);
        x.put(0, 0, 0);
        check.due("by another's fall hers is picked up", x.advise(1, 0), 1);
        check.due("that", x.advise(1, 1), 5);
        check.due("what is asked changes nothing", x.count(2), 1);
    }

    private static void promise21TurnRefuses() {
        HandkerchiefsDropped x = six(5);
        for (int what : Check.outside(0, 1)) {
            check.due("BAD: what", x.turn(what), -2);
        }
    }

    private static void turn(String what, HandkerchiefsDropped x, int admitted, int set, int many) {
        x.court(3, 0, admitted);
        check.due(what, x.turn(0), set);
        check.due(what + ", of how many", x.turn(1), many);
        check.due(what + ": changes nothing", x.bench(2, 0), admitted);
    }

    private static void promise21TurnAtNothing() {
        HandkerchiefsDropped x = six(1, -1, -2);
        turn("0 isn't above 0", x, 0, 1, 1);
        turn("1 is above 0, 0 is not", x, 1, 2, 1);
        turn("-1 isn't above 0: to 0 is not enough", x, 2, -1, -1);
        turn("all but weightless ones are ADMITTED", x, 7, -1, -1);
        turn("all are ADMITTED", x, 1023, -1, -1);
        x.court(0, 9, 3);
        turn("the last FACT", x, 7, 512, 1);
        HandkerchiefsDropped none = new HandkerchiefsDropped();
        turn("none weighs", none, 0, -1, -1);
        HandkerchiefsDropped y = six(3, -2, -3);
        turn("3 to 1 is above 0 still, to 0 is not", y, 1, 4, 1);
    }

    private static void promise21TurnLikeOnes() {
        HandkerchiefsDropped x = six(-5, 4, 3, 3, 2, 2);
        turn("two: 2 and 4 ahead of 2 and 8", x, 1, 2 | 4, 2);
        x.court(0, 1, 0);
        turn("two: 4 and 8", x, 1, 4 | 8, 2);
        x.court(0, 9, 6);
        turn("one, greater as bits, is fewer than two", x, 1, 512, 1);
        x.court(0, 8, 7);
        turn("the least of ones, not the weightiest", x, 1, 256, 1);
    }

    private static void promise21TurnOfMany() {
        HandkerchiefsDropped x = new HandkerchiefsDropped();
        x.court(0, 0, -99);
        for (int f = 1; f < 10; f++) {
            x.court(0, f, 12);
        }
        turn("all nine: 108 of 99", x, 1, 1022, 9);
        for (int f = 1; f < 10; f++) {
            x.court(0, f, 11);
        }
        turn("all nine make just 0", x, 1, -1, -1);
        for (int f = 1; f < 10; f++) {
            x.court(0, f, -11);
        }
        x.court(0, 0, 99);
        turn("nine of -11 make 99 just 0", x, 1, 1022, 9);
        x.court(0, 9, -10);
        turn("1 is above 0 still", x, 1, -1, -1);
    }

    private static void promise22GallantRefuses() {
        HandkerchiefsDropped x = six(5);
        for (int n : Check.outside(0, 40)) {
            check.due("BAD: n", x.gallant(n, 0), -2);
        }
        for (int what : Check.outside(0, 1)) {
            check.due("BAD: what", x.gallant(40, what), -2);
        }
    }

    private static void promise22GallantEnds() {
        HandkerchiefsDropped x = Check.onlyInHour(39, 1);
        Check.allKeen(x, 0);
        x.drop(0);
        check.due("behind 40: GENTLEMAN 39 modulo 6", x.gallant(40, 0), 3);
        check.due("behind 40, how many", x.gallant(40, 1), 1);
        check.due("behind 39: none", x.gallant(39, 0), -1);
        check.due("behind 39, as so", x.gallant(39, 1), 0);
        HandkerchiefsDropped y = new HandkerchiefsDropped();
        Check.allKeen(y, 0);
        y.witness(0, 1, 1);
        y.drop(0);
        check.due("99 and 1 make 100", y.gallant(1, 0), 0);
        y.put(0, 1, 0);
        check.due("99 and 0 make 99", y.gallant(1, 0), -1);
        check.due("behind 0: none", y.gallant(0, 0), -1);
    }

    private static void promise22GallantLikeOnes() {
        HandkerchiefsDropped x = new HandkerchiefsDropped();
        Check.allKeen(x, 0);
        x.witness(0, 1, 60);
        x.drop(0);
        x.court(2, 0, 3);
        check.due("of like ones the first, though he passes last", x.gallant(6, 0), 0);
        check.due("he does not pass", x.gallant(3, 0), 3);
        x.court(1, 4, 99);
        check.due("no more than so: none", x.gallant(6, 0), -1);
        check.due("as so", x.gallant(6, 1), 1);
        check.due("who is KEEN 99 is none by himself", x.gallant(2, 0), -1);
        check.due("ahead of him one is", x.gallant(1, 0), 3);
    }

    private static void promise22GallantCountsFacts() {
        HandkerchiefsDropped x = six(-99, -99, -99);
        Check.allKeen(x, 0);
        x.drop(0);
        x.drop(0);
        x.drop(1);
        check.due("FACTS, not their WEIGHTS, nor HANDKERCHIEFS", x.gallant(1, 1), 2);
        x.court(3, 0, 2);
        check.due("what is ADMITTED counts once", x.gallant(1, 1), 2);
        x.court(3, 0, 3);
        check.due("all are ADMITTED: none", x.gallant(1, 0), -1);
        x.court(3, 0, 1023);
        check.due("ten at most", x.gallant(40, 1), 10);
    }

    private static void promise23CastRefuses() {
        HandkerchiefsDropped x = six(5);
        for (int n : Check.outside(0, 3)) {
            check.due("-5000: n", x.cast(n, 0), -5000);
        }
        for (int what : Check.outside(0, 1)) {
            check.due("-5000: what", x.cast(3, what), -5000);
        }
    }

    private static void promise23CastOfFew() {
        HandkerchiefsDropped x = new HandkerchiefsDropped();
        check.due("no WITNESSES: none", x.cast(3, 0), 0);
        check.due("that", x.cast(3, 1), 0);
        HandkerchiefsDropped y = six(5);
        check.due("no one twice", y.cast(3, 0), 1);
        check.due("at most 0: none", y.cast(0, 0), 0);
        check.due("at most 0, that", y.cast(0, 1), 0);
        HandkerchiefsDropped z = six(-5, -6);
        check.due("none, too", z.cast(3, 0), 0);
        z.court(3, 0, 1);
        check.due("none, below 0", z.cast(3, 1), -5);
    }

    private static void promise23CastLikeOnes() {
        check.due("a row ahead of all that go on from it", six(5, 0, 0).cast(3, 0), 1);
        check.due("12 ahead of 2", six(0, 5, 0).cast(3, 0), 12);
        check.due("123 ahead of 13, of 3", six(0, 0, 5).cast(3, 0), 123);
        check.due("of one: 3", six(0, 0, 5).cast(1, 0), 3);
        check.due("124 ahead of 14, of 4", six(0, 0, 0, 5).cast(3, 0), 124);
        check.due("of two: 14", six(0, 0, 0, 5).cast(2, 0), 14);
        check.due("none ahead of all", six(0, 0, 0).cast(3, 0), 0);
        check.due("by the first, then by the next one", six(5, -1, 6, 7).cast(3, 0), 134);
    }

    private static void promise23CastHoursBehind() {
        HandkerchiefsDropped x = Check.onlyInHour(14, 3);
        x.drop(0);
        check.due("an HOUR behind each of three, and 12", x.cast(3, 0), 123);
        check.due("that", x.cast(3, 1), 5);
        check.due("an HOUR behind each of two, and 12", x.cast(2, 0), 0);
        check.due("that", x.cast(2, 1), 0);
        HandkerchiefsDropped y = Check.onlyInHour(15, 3);
        y.drop(0);
        check.due("15 HOURS end ahead of 15", y.cast(3, 1), 0);
        HandkerchiefsDropped z = Check.onlyInHour(11, 1);
        z.drop(0);
        check.due("12 HOURS behind none", z.cast(0, 1), 5);
        HandkerchiefsDropped w = Check.onlyInHour(0, 1);
        check.due("she LETS one FALL ahead of her HOUR", w.cast(1, 0), 1);
        HandkerchiefsDropped v = Check.onlyInHour(1, 2);
        v.put(0, 0, 2);
        v.court(0, 1, 3);
        check.due("the next one ahead of the second HOUR", v.cast(2, 0), 12);
        check.due("both are picked up in it", v.cast(2, 1), 8);
    }

    private static void promise23CastSheCanThen() {
        HandkerchiefsDropped x = six(5, 6, 7);
        x.put(1, 0, 0);
        check.due("no FACT is KNOWN", x.cast(3, 0), 13);
        x.witness(50, 512, 0);
        for (int h = 0; h < 7; h++) {
            x.drop(3);
        }
        x.put(3, 0, 0);
        check.due("the last place", x.cast(1, 0), 3);
        check.due("it is empty again behind the HOUR", x.cast(2, 0), 13);
        x.put(3, 0, 512);
        x.drop(3);
        check.due("all are there: none", x.cast(3, 0), 0);
        check.due("that", x.cast(3, 1), 0);
        check.due("changes nothing", x.count(2), 8);
        HandkerchiefsDropped y = six(5, 6, 7);
        Check.rule(y, "looks 0;waits 99;drops 0;");
        for (int h = 0; h < 7; h++) {
            y.drop(0);
        }
        Check.rule(y, "looks 99*(7<lying);waits 99;drops 0;");
        check.due("the eighth: all look 99, then but 7 are there", y.cast(1, 1), 5);
    }

    private static void promise23CastDigits() {
        check.due("1 more than each", six(-1, -1, -1, -1, -1, 5).cast(3, 0), 6);
        check.due("the first the highest", six(-1, -1, -1, 1, 1, 1).cast(3, 0), 456);
        check.due("all three", six(-1, -1, -1, 1, 1, 1).cast(3, 1), 3);
        HandkerchiefsDropped x = six(0, 0, 0, 9, 8, 7);
        // One looks by how many hours went by: the row's order is told by it alone.
        Check.rule(x, "looks 99*(hour=0)*(face=1)+99*(hour=1)*(face=2)+99*(hour=2)*(face=3);waits 1;drops 0;");
        x.put(5, 1, 1);
        x.put(4, 1, 2);
        x.put(3, 1, 3);
        check.due("654", x.cast(3, 0), 654);
        check.due("24 together", x.cast(3, 1), 24);
    }

    private static void mean(String what, HandkerchiefsDropped x, int admitted, long above, long below) {
        x.court(3, 0, admitted);
        check.due(what + ", above the line", x.mean(0), above);
        check.due(what + ", below the line", x.mean(1), below);
    }

    private static void promise24Mean() {
        HandkerchiefsDropped x = new HandkerchiefsDropped();
        mean("NO: none is", x, 0, HandkerchiefsDropped.NO, HandkerchiefsDropped.NO);
        x.court(3, 0, 1);
        for (int part : Check.outside(0, 1)) {
            check.due("NO: part", x.mean(part), HandkerchiefsDropped.NO);
        }
        x.court(3, 0, 0);
        for (int part : Check.outside(0, 1)) {
            check.due("NO: part, none is", x.mean(part), HandkerchiefsDropped.NO);
        }
        mean("0 of ten", x, 1023, 0, 1);
        mean("0 of one", x, 512, 0, 1);
    }

    private static void promise24MeanLowest() {
        HandkerchiefsDropped x = new HandkerchiefsDropped();
        for (int f = 0; f < 10; f++) {
            x.court(0, f, 99);
        }
        mean("the most", x, 1023, 99, 1);
        mean("99 of one", x, 1, 99, 1);
        x.court(0, 0, 98);
        mean("989 of ten", x, 1023, 989, 10);
        x.court(0, 0, 94);
        mean("985 of ten", x, 1023, 197, 2);
        for (int f = 0; f < 10; f++) {
            x.court(0, f, -99);
        }
        mean("the least: below the line above 0", x, 1023, -99, 1);
        x.court(0, 0, -98);
        mean("-197 of two", x, 3, -197, 2);
        x.court(0, 1, 96);
        mean("-2 of two", x, 3, -1, 1);
        x.court(0, 2, -4);
        mean("-6 of three", x, 7, -2, 1);
        x.court(0, 3, -3);
        mean("-9 of four", x, 15, -9, 4);
    }
}
