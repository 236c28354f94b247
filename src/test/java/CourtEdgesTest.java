/** The boundary cases of Terms 1 and of promises 1 to 13, sentence by sentence: what is quoted is the document's. */
public final class CourtEdgesTest {
    private static final int BAD = HandkerchiefsDropped.BAD, FULL = HandkerchiefsDropped.FULL;
    private static final String PLAIN = "looks 1;waits 1;drops 1;";
    private static final Check check = new Check("CourtEdgesTest");

    public static void main(String[] args) {
        promise1NewObject();
        promise1ObjectsApart();
        promise2Count();
        promise3Court();
        promise3CourtRefuses();
        promise4Bench();
        promise5Feed();
        promise5FeedIsFull();
        promise6Text();
        promise6TextIsFull();
        promise7Force();
        promise8Asks();
        promise8AsksBounds();
        promise9Witness();
        promise10Put();
        promise11Told();
        promise11ToldLinen();
        promise12Regard();
        promise13Linen();
        ladyEdges();
        cookEdges();
        widowEdges();
        maidEdges();
        greyEdges();
        textBoundsComeAhead();
        dropsByNegativeNumbers();
        check.end();
    }

    private static void promise1NewObject() {
        HandkerchiefsDropped x = new HandkerchiefsDropped();
        for (int p = 0; p < 6; p++) {
            check.due("no WITNESSES", x.told(p, 0), -5);
            check.due("no WITNESSES lie at their places", x.taken(p, 0), -11);
        }
        for (int h = 0; h < 8; h++) {
            check.due("no HANDKERCHIEFS", x.linen(h, 0), -6);
        }
        for (int f = 0; f < 10; f++) {
            check.due("nothing ADMITTED", x.when(f), -1);
        }
        for (int s = 0; s < 4; s++) {
            check.due("missing (as all are at first)", x.cell(s, 0, 0), -11);
        }
        check.due("TEXT 0, at first, THE LAW", x.force(0), 0);
        check.due("HOUR 0 at first", x.bench(4, 0), 0);
    }

    private static void promise1ObjectsApart() {
        HandkerchiefsDropped x = new HandkerchiefsDropped();
        HandkerchiefsDropped y = new HandkerchiefsDropped();
        x.witness(0, 1, 1);
        x.court(3, 0, 1);
        x.drop(0);
        Check.put(x, "looks");
        x.sheet(0, 0, 1);
        x.image();
        check.due("another object's WITNESSES", y.count(0), 0);
        check.due("another object's ADMITTED", y.bench(2, 0), 0);
        check.due("another object's HANDKERCHIEFS", y.count(2), 0);
        check.due("another object's TAPE", y.count(5), 0);
        check.due("another object's SHEET", y.judge(0), -11);
        check.due("another object's IMAGE", y.back(), -3);
    }

    private static void promise2Count() {
        HandkerchiefsDropped x = new HandkerchiefsDropped();
        for (int what : Check.outside(0, 5)) {
            check.due("BAD: " + what, x.count(what), BAD);
        }
        for (int p = 0; p < 6; p++) {
            x.witness(0, 1, 1);
        }
        for (int h = 0; h < 8; h++) {
            x.drop(0);
        }
        for (int t = 1; t < 6; t++) {
            Check.read(x, PLAIN);
        }
        x.force(5);
        x.court(2, 0, 999);
        Check.put(x, " ".repeat(160));
        check.due("6 WITNESSES at most", x.count(0), 6);
        check.due("HOUR to 999", x.count(1), 999);
        check.due("HANDKERCHIEFS 0 .. 7", x.count(2), 8);
        check.due("6 TEXTS at most", x.count(3), 6);
        check.due("the last TEXT is THE LAW", x.count(4), 5);
        check.due("160 bytes at most", x.count(5), 160);
    }

    private static void promise3Court() {
        HandkerchiefsDropped x = new HandkerchiefsDropped();
        for (int f = 0; f < 10; f++) {
            check.due("FACT " + f + " least", x.court(0, f, -99), 0);
            check.due("FACT " + f + " most", x.court(0, f, 99), -99);
        }
        for (int man = 0; man < 6; man++) {
            check.due("GENTLEMAN " + man + " most", x.court(1, man, 99), 50);
            check.due("GENTLEMAN " + man + " least", x.court(1, man, 0), 99);
        }
        for (int of : Check.outside(0, 5)) {
            check.due("HOUR: of does not matter", x.court(2, of, 999), 0);
            check.due("HOUR back to 0", x.court(2, of, 0), 999);
            check.due("ADMITTED: of does not matter", x.court(3, of, 1023), 0);
            check.due("ADMITTED back to none", x.court(3, of, 0), 1023);
        }
    }

    private static void promise3CourtRefuses() {
        HandkerchiefsDropped x = new HandkerchiefsDropped();
        x.court(0, 0, 7);
        x.court(1, 0, 8);
        x.court(2, 0, 9);
        x.court(3, 0, 10);
        for (int bad : Check.outside(0, 3)) {
            check.due("-5000: what", x.court(bad, 0, 0), -5000);
            check.due("-5000: what, ahead of -7000: v", x.court(bad, 0, 5000), -5000);
        }
        for (int of : Check.outside(0, 9)) {
            check.due("-5000: none such FACT", x.court(0, of, 0), -5000);
            check.due("-5000: none such FACT, ahead of v", x.court(0, of, 100), -5000);
        }
        for (int of : Check.outside(0, 5)) {
            check.due("-5000: none such GENTLEMAN", x.court(1, of, 0), -5000);
            check.due("-5000: none such GENTLEMAN, ahead of v", x.court(1, of, -1), -5000);
        }
        int[][] bounds = {{-99, 99}, {0, 99}, {0, 999}, {0, 1023}};
        for (int what = 0; what < 4; what++) {
            for (int v : Check.outside(bounds[what][0], bounds[what][1])) {
                check.due("-7000: v " + v + " of " + what, x.court(what, 0, v), -7000);
            }
        }
        check.due("a refusal leaves the WEIGHT", x.bench(0, 0), 7);
        check.due("a refusal leaves who is how KEEN", x.bench(1, 0), 8);
        check.due("a refusal leaves the HOUR", x.count(1), 9);
        check.due("a refusal leaves ADMITTED", x.bench(2, 0), 10);
    }

    private static void promise4Bench() {
        HandkerchiefsDropped x = new HandkerchiefsDropped();
        for (int what : Check.outside(0, 4)) {
            check.due("-5000: what", x.bench(what, 0), -5000);
        }
        for (int of : Check.outside(0, 9)) {
            check.due("none such FACT", x.bench(0, of), -5000);
        }
        for (int of : Check.outside(0, 5)) {
            check.due("none such GENTLEMAN", x.bench(1, of), -5000);
            check.due("ADMITTED: of does not matter", x.bench(2, of), 0);
            check.due("VERDICT: nor", x.bench(3, of), 0);
            check.due("which GENTLEMAN: nor", x.bench(4, of), 0);
        }
        for (int f = 0; f < 10; f++) {
            x.court(0, f, -99);
        }
        x.court(3, 0, 1023);
        check.due("VERDICT of all, the least", x.bench(3, 0), -990);
        for (int f = 0; f < 10; f++) {
            x.court(0, f, 99);
        }
        check.due("VERDICT of all, the most", x.bench(3, 0), 990);
        int[][] passes = {{0, 0}, {5, 5}, {6, 0}, {7, 1}, {998, 2}, {999, 3}};
        for (int[] hour : passes) {
            x.court(2, 0, hour[0]);
            check.due("HOUR modulo 6 at " + hour[0], x.bench(4, 0), hour[1]);
        }
    }

    private static void promise5Feed() {
        HandkerchiefsDropped x = new HandkerchiefsDropped();
        for (int n : Check.outside(1, 5)) {
            check.due("BAD: n", x.feed(n, 32, 32, 32, 32, 32), BAD);
        }
        for (int i = 0; i < 5; i++) {
            int[] b = {32, 32, 32, 32, 32};
            for (int v : Check.outside(0, 255)) {
                b[i] = v;
                for (int n = 1; n <= 5; n++) {
                    check.due("BAD: any of the five, of n " + n, x.feed(n, b[0], b[1], b[2], b[3], b[4]), BAD);
                }
            }
            b[i] = 255;
            check.due("255 is a byte", new HandkerchiefsDropped().feed(5, b[0], b[1], b[2], b[3], b[4]), 5);
            b[i] = 0;
            check.due("0 is a byte", new HandkerchiefsDropped().feed(5, b[0], b[1], b[2], b[3], b[4]), 5);
        }
        check.due("a refusal leaves THE TAPE", x.count(5), 0);
        check.due("the first n alone come", x.feed(2, ' ', ' ', '?', '?', '?'), 2);
        check.due("behind THE TAPE's", x.feed(1, '!', 'l', 'l', 'l', 'l'), 3);
        check.due("in their order", x.text(), -102);
    }

    private static void promise5FeedIsFull() {
        for (int n = 1; n <= 5; n++) {
            HandkerchiefsDropped x = new HandkerchiefsDropped();
            Check.put(x, " ".repeat(161 - n));
            check.due("FULL by one byte, of n " + n, x.feed(n, 32, 32, 32, 32, 32), FULL);
            check.due("none comes", x.count(5), 161 - n);
            check.due("BAD, then FULL", x.feed(n, 32, 32, 32, 32, 256), BAD);
            if (n > 1) {
                check.due("just room", x.feed(n - 1, 32, 32, 32, 32, 32), 160);
            }
            check.due("FULL of 160", x.feed(1, 32, 32, 32, 32, 32), FULL);
            check.due("what is read makes room", x.text(), -260);
            check.due("room for five", x.feed(5, 32, 32, 32, 32, 32), 5);
        }
    }

    private static void promise6Text() {
        HandkerchiefsDropped x = new HandkerchiefsDropped();
        check.due("an empty TAPE ends too early", x.text(), -100);
        check.due("a TEXT", Check.read(x, PLAIN), 1);
        check.due("THE TAPE is empty then", x.count(5), 0);
        check.due("a FAULT at the first byte", Check.read(x, "+looks"), -100);
        check.due("THE TAPE is empty by a FAULT, too", x.count(5), 0);
        check.due("a FAULT is no TEXT", x.count(3), 2);
        check.due("THE LAW stays", x.count(4), 0);
        check.due("the next number is not skipped by a FAULT", Check.read(x, PLAIN), 2);
        check.due("a FAULT at the last byte", Check.read(x, " ".repeat(159) + ";"), -259);
        check.due("the text's size, if it ends too early", Check.read(x, " ".repeat(160)), -260);
    }

    private static void promise6TextIsFull() {
        HandkerchiefsDropped x = new HandkerchiefsDropped();
        for (int t = 1; t < 6; t++) {
            check.due("TEXT " + t, Check.read(x, PLAIN), t);
        }
        check.due("FULL of an empty TAPE", x.text(), FULL);
        check.due("FULL of a TEXT", Check.read(x, PLAIN), FULL);
        check.due("then THE TAPE stays", x.count(5), PLAIN.length());
        Check.put(x, "?");
        check.due("FULL, ahead of the FAULT", x.text(), FULL);
        check.due("then THE TAPE stays", x.count(5), PLAIN.length() + 1);
        check.due("6 at most", x.count(3), 6);
    }

    private static void promise7Force() {
        HandkerchiefsDropped x = new HandkerchiefsDropped();
        for (int texts = 1; texts <= 6; texts++) {
            for (int t : Check.outside(0, texts - 1)) {
                check.due("BAD of " + texts, x.force(t), BAD);
            }
            check.due("a refusal leaves THE LAW", x.count(4), texts == 1 ? 0 : texts - 2);
            check.due("the last one: which was", x.force(texts - 1), texts == 1 ? 0 : texts - 2);
            Check.read(x, PLAIN);
        }
        check.due("the same again: which was", x.force(5), 5);
    }

    private static void promise8Asks() {
        HandkerchiefsDropped x = new HandkerchiefsDropped();
        check.due("-1000: no WITNESSES", x.asks(0, 0), -1000);
        x.witness(59, 0, 99);
        for (int part : Check.outside(0, 2)) {
            check.due("-1000: part", x.asks(part, 0), -1000);
        }
        for (int p : Check.outside(0, 0)) {
            check.due("-1000: none such", x.asks(2, p), -1000);
        }
        check.due("what the text says, not the KIND", x.asks(0, 0), 99);
        check.due("THE LAW at first: waits 6", x.asks(1, 0), 6);
        x.court(2, 0, 99);
        check.due("THE LAW at first: drops hour", x.asks(2, 0), 99);
        x.court(2, 0, 999);
        check.due("drops -99 .. 99, else the bound", x.asks(2, 0), 99);
    }

    private static void said(String e, int looks, int waits, int drops) {
        HandkerchiefsDropped x = new HandkerchiefsDropped();
        x.witness(0, 1, 1);
        Check.rule(x, "looks " + e + ";waits " + e + ";drops " + e + ";");
        check.due("looks " + e, x.asks(0, 0), looks);
        check.due("waits " + e, x.asks(1, 0), waits);
        check.due("drops " + e, x.asks(2, 0), drops);
    }

    private static void promise8AsksBounds() {
        said("99", 99, 99, 99);
        said("100", 99, 99, 99);
        said("0", 0, 0, 0);
        said("-1", 0, 0, -1);
        said("-99", 0, 0, -99);
        said("-100", 0, 0, -99);
        said("9999*9999", 99, 99, 99);
        // The greatest int and the one behind it: 32 bits, wrapping.
        said("8192*8192*32-1", 99, 99, 99);
        said("8192*8192*32", 0, 0, -99);
        said("-(8192*8192*32)", 0, 0, -99);
        said("0-8192*8192*32-1", 99, 99, 99);
        said("8192*8192*64", 0, 0, 0);
        said("8192*8192*64+7", 7, 7, 7);
    }

    private static void promise9Witness() {
        HandkerchiefsDropped x = new HandkerchiefsDropped();
        for (int v : Check.outside(0, 59)) {
            check.due("BAD: KIND and MORE " + v, x.witness(v, 0, 0), BAD);
        }
        for (int v : Check.outside(0, 1023)) {
            check.due("BAD: KNOWN " + v, x.witness(0, v, 0), BAD);
        }
        for (int v : Check.outside(0, 99)) {
            check.due("BAD: FACE " + v, x.witness(0, 0, v), BAD);
        }
        check.due("a refusal brings none", x.count(0), 0);
        check.due("the least", x.witness(0, 0, 0), 0);
        check.due("the most", x.witness(59, 1023, 99), 1);
        check.due("of KIND 5", x.told(1, 3), 5);
        check.due("MORE 9", x.told(1, 4), 9);
        check.due("VAIN 0 as one comes", x.told(1, 2), 0);
        for (int p = 2; p < 6; p++) {
            check.due("the number", x.witness(0, 0, 0), p);
        }
        check.due("FULL", x.witness(0, 0, 0), FULL);
        check.due("BAD, then FULL", x.witness(0, 1024, 0), BAD);
        check.due("6 at most", x.count(0), 6);
    }

    private static void promise10Put() {
        HandkerchiefsDropped x = new HandkerchiefsDropped();
        check.due("-5: no WITNESSES", x.put(0, 0, 0), -5);
        x.witness(0, 5, 6);
        for (int p : Check.outside(0, 0)) {
            check.due("-5: none such", x.put(p, 0, 0), -5);
            check.due("-5 ahead of what", x.put(p, 2, 0), -5);
            check.due("-5 ahead of v", x.put(p, 1, 100), -5);
        }
        for (int what : Check.outside(0, 1)) {
            check.due("-7: what", x.put(0, what, 0), -7);
        }
        for (int v : Check.outside(0, 1023)) {
            check.due("-7: v of KNOWN", x.put(0, 0, v), -7);
        }
        for (int v : Check.outside(0, 99)) {
            check.due("-7: v of FACE", x.put(0, 1, v), -7);
        }
        check.due("KNOWN to the most: what it was", x.put(0, 0, 1023), 5);
        check.due("KNOWN to none: what it was", x.put(0, 0, 0), 1023);
        check.due("FACE to the most: what it was", x.put(0, 1, 99), 6);
        check.due("FACE to the least: what it was", x.put(0, 1, 0), 99);
    }

    private static void promise11Told() {
        HandkerchiefsDropped x = new HandkerchiefsDropped();
        check.due("-5: no WITNESSES", x.told(0, 0), -5);
        x.witness(0, 512, 50);
        for (int p : Check.outside(0, 0)) {
            check.due("-5: none such", x.told(p, 0), -5);
            check.due("-5 ahead of what", x.told(p, 9), -5);
        }
        for (int what : Check.outside(0, 8)) {
            check.due("-7: what", x.told(0, what), -7);
        }
        check.due("the one FACT, the last", x.told(0, 5), 9);
        x.put(0, 0, 1);
        check.due("the one FACT, the first", x.told(0, 5), 0);
        x.put(0, 0, 0);
        check.due("-1: none is KNOWN", x.told(0, 5), -1);
        check.due("for how long she would WAIT", x.told(0, 6), 6);
        check.due("50 and 50 make 100: all", x.told(0, 8), 63);
        x.put(0, 1, 49);
        check.due("49 and 50 make 99: none", x.told(0, 8), 0);
    }

    private static void promise11ToldLinen() {
        HandkerchiefsDropped x = new HandkerchiefsDropped();
        x.witness(0, 1, 0);
        x.witness(0, 1, 0);
        for (int h = 0; h < 8; h++) {
            x.drop(0);
        }
        check.due("all are hers", x.told(0, 7), 255);
        check.due("none is hers", x.told(1, 7), 0);
        x.burn(7);
        x.burn(0);
        x.drop(1);
        check.due("but the first and the last", x.told(0, 7), 126);
        check.due("the first", x.told(1, 7), 1);
        x.put(0, 0, 0);
        check.due("what lies there stays hers", x.told(0, 7), 126);
    }

    private static void promise12Regard() {
        HandkerchiefsDropped x = new HandkerchiefsDropped();
        check.due("-5: no WITNESSES", x.regard(0, 0, 0), -5);
        x.witness(0, 1, 1);
        x.court(1, 5, 99);
        x.court(1, 4, 98);
        for (int p : Check.outside(0, 0)) {
            check.due("-5: none such WITNESS", x.regard(p, 0, 0), -5);
            check.due("-5 ahead of what", x.regard(p, 0, 2), -5);
        }
        for (int man : Check.outside(0, 5)) {
            check.due("-5: none such GENTLEMAN", x.regard(0, man, 0), -5);
            check.due("-5 ahead of what", x.regard(0, man, -1), -5);
        }
        for (int what : Check.outside(0, 1)) {
            check.due("-7: what", x.regard(0, 5, what), -7);
        }
        check.due("99 and 1 make 100", x.regard(0, 5, 1), 1);
        check.due("98 and 1 make 99", x.regard(0, 4, 1), 0);
        x.put(0, 1, 99);
        x.court(1, 0, 0);
        x.court(1, 1, 1);
        check.due("0 and 99 make 99", x.regard(0, 0, 1), 0);
        check.due("1 and 99 make 100", x.regard(0, 1, 1), 1);
    }

    private static void promise13Linen() {
        HandkerchiefsDropped x = new HandkerchiefsDropped();
        x.witness(0, 1, 0);
        x.witness(50, 1, 0);
        x.witness(0, 512, 99);
        x.drop(0);
        x.drop(1);
        x.drop(2);
        for (int h : Check.outside(0, 7)) {
            check.due("-6: no such number", x.linen(h, 0), -6);
            check.due("-6 ahead of what", x.linen(h, 3), -6);
        }
        for (int what : Check.outside(0, 2)) {
            check.due("-7: what", x.linen(0, what), -7);
            check.due("-6 ahead of what", x.linen(3, what), -6);
        }
        check.due("LEFT 1", x.linen(1, 2), 1);
        check.due("the last FACT", x.linen(2, 1), 9);
        x.hour();
        check.due("there still", x.linen(0, 2), 5);
        check.due("-6: her time is out", x.linen(1, 2), -6);
        check.due("-6: picked up", x.linen(2, 2), -6);
        x.burn(0);
        check.due("-6: burnt", x.linen(0, 2), -6);
        for (int h = 0; h < 8; h++) {
            x.drop(0);
        }
        check.due("the last number", x.linen(7, 0), 0);
    }

    /** One witness of a kind, of a text that looks, waits and drops so. */
    private static HandkerchiefsDropped of(int kindMore, int known, String looks, String waits, String drops) {
        HandkerchiefsDropped x = new HandkerchiefsDropped();
        x.witness(kindMore, known, 0);
        x.court(2, 0, 1);
        Check.rule(x, "looks " + looks + ";waits " + waits + ";drops " + drops + ";");
        return x;
    }

    private static void ladyEdges() {
        for (int more = 0; more < 10; more++) {
            HandkerchiefsDropped x = of(10 + more, 1, "7", "5", "0");
            for (int man = 0; man < 6; man++) {
                check.due("99 to GENTLEMAN " + more + " modulo 6", x.regard(0, man, 0), man == more % 6 ? 99 : 7);
            }
        }
        int[][] halves = {{0, 1}, {1, 1}, {2, 1}, {3, 1}, {4, 2}, {5, 2}, {98, 49}, {99, 49}};
        for (int[] half : halves) {
            check.due("half (cut) of " + half[0], of(10, 1, "7", String.valueOf(half[0]), "0").told(0, 6), half[1]);
        }
    }

    private static void cookEdges() {
        check.due("MORE 0: none less", of(20, 1, "45", "5", "0").regard(0, 0, 0), 45);
        check.due("MORE 9: 45 less", of(29, 1, "99", "5", "0").regard(0, 0, 0), 54);
        check.due("just 0", of(29, 1, "45", "5", "0").regard(0, 0, 0), 0);
        check.due("LOOKS 0 .. 99, else the bound", of(29, 1, "44", "5", "0").regard(0, 0, 0), 0);
        check.due("from the last one: itself", of(20, 1023, "0", "5", "0").told(0, 5), 9);
        check.due("from the last one: the first", of(20, 1023, "0", "5", "9").told(0, 5), 0);
        check.due("from the last one: wrapped", of(20, 1023, "0", "5", "10").told(0, 5), 9);
        check.due("from the last one, of one", of(20, 16, "0", "5", "3").told(0, 5), 4);
        check.due("WAITS as a WITNESS", of(29, 1, "0", "5", "0").told(0, 6), 5);
    }

    private static void widowEdges() {
        HandkerchiefsDropped x = of(39, 1, "99", "99", "0");
        int[][] hours = {{0, 99}, {1, 58}, {4, 58}, {5, 99}, {6, 58}, {995, 99}, {999, 58}};
        for (int[] hour : hours) {
            x.court(2, 0, hour[0]);
            check.due("WAITS in HOUR " + hour[0], x.told(0, 6), hour[1]);
        }
        check.due("half (cut) to 0", x.regard(0, 0, 0), 49);
        check.due("all to 1", x.regard(0, 1, 0), 99);
        check.due("half of 1 to 4", of(30, 1, "1", "0", "0").regard(0, 4, 0), 0);
        check.due("1 to 5", of(30, 1, "1", "0", "0").regard(0, 5, 0), 1);
        check.due("a LADY's 99, halved", of(32, 1, "1", "0", "0").regard(0, 2, 0), 49);
        check.due("a LADY's 99", of(33, 1, "1", "0", "0").regard(0, 3, 0), 99);
        check.due("a LADY's WAITS without its bound", of(31, 1, "1", "1", "0").told(0, 6), 1);
        check.due("MORE more than that", of(32, 1, "1", "1", "0").told(0, 6), 2);
        check.due("WAITS 1 .. 99, else the bound", of(30, 1, "1", "0", "0").told(0, 6), 1);
        check.due("DROPS as a WITNESS", of(39, 1023, "1", "0", "2").told(0, 5), 2);
    }

    private static void maidEdges() {
        check.due("twice 49", of(40, 1, "0", "49", "0").told(0, 6), 98);
        check.due("twice 50 is above the bound", of(40, 1, "0", "50", "0").told(0, 6), 99);
        check.due("twice 0 is below the bound", of(40, 1, "0", "0", "0").told(0, 6), 1);
        check.due("twice 1", of(40, 1, "0", "1", "0").told(0, 6), 2);
        check.due("LOOKS as a COOK", of(49, 1, "46", "1", "0").regard(0, 0, 0), 1);
        check.due("the greater: a COOK's", of(43, 1023, "0", "1", "5").told(0, 5), 4);
        check.due("the greater: both alike", of(44, 1023, "0", "1", "5").told(0, 5), 4);
        check.due("the greater: MORE", of(45, 1023, "0", "1", "5").told(0, 5), 5);
        check.due("MORE modulo 9 is 0", of(49, 511, "0", "1", "8").told(0, 5), 0);
        check.due("MORE modulo 8 is 1", of(49, 255, "0", "1", "7").told(0, 5), 1);
        check.due("of one", of(49, 256, "0", "1", "7").told(0, 5), 8);
    }

    private static void greyEdges() {
        check.due("LOOKS 0", of(50, 1, "99", "99", "0").told(0, 8), 0);
        check.due("WAITS 1 and 0", of(50, 1, "99", "99", "0").told(0, 6), 1);
        check.due("WAITS 1 and 9", of(59, 1, "99", "0", "0").told(0, 6), 10);
        check.due("DROPS as a WITNESS", of(59, 1023, "99", "0", "7").told(0, 5), 7);
    }

    private static void textBoundsComeAhead() {
        check.due("99 is taken less 45, not 200", of(29, 1, "200", "0", "0").regard(0, 0, 0), 54);
        check.due("99 is halved, not 200", of(10, 1, "0", "200", "0").told(0, 6), 49);
        check.due("0 is doubled, not -5", of(40, 1, "0", "-5", "0").told(0, 6), 1);
        check.due("99 modulo 7, not 150", of(0, 127, "0", "0", "150").told(0, 5), 1);
        check.due("-99 modulo 7, not -150", of(0, 127, "0", "0", "-150").told(0, 5), 6);
    }

    private static void dropsByNegativeNumbers() {
        int[][] due = {{0, 0}, {-1, 6}, {-6, 1}, {-7, 0}, {-8, 6}, {7, 0}, {6, 6}};
        for (int[] d : due) {
            HandkerchiefsDropped x = of(0, 127, "0", "0", String.valueOf(d[0]));
            check.due("modulo how many (0 or more), of " + d[0], x.told(0, 5), d[1]);
        }
        check.due("-99 of ten", of(0, 1023, "0", "0", "-99").told(0, 5), 1);
    }
}
