import java.util.Arrays;

/** The boundary cases of promises 25 to 31, sentence by sentence: what is quoted is the document's. */
public final class TalesEdgesTest {
    private static final int BAD = HandkerchiefsDropped.BAD;
    private static final String[] CALLS = {"judge", "kinds", "faces", "keens", "burnt", "laws"};
    private static final int KINDS = 1, KEENS = 3;
    private static final Check check = new Check("TalesEdgesTest");

    public static void main(String[] args) {
        for (int call = 0; call < CALLS.length; call++) {
            refusesSheet(call);
            refusesMissing(call);
            refusesMoreThan20(call);
        }
        for (int call = KINDS; call <= KEENS; call++) {
            refusesNoneSuch(call);
            refusesWhat(call);
        }
        promise25Judge();
        promise25JudgeOfSorts();
        promise25JudgeOfMuch();
        promise26Kinds();
        promise26Mores();
        promise26OfHerAlone();
        promise27Faces();
        promise28Keens();
        promise28KeensOfWhoPasses();
        promise29Burnt();
        promise29JustThatOne();
        promise30Laws();
        promise31Film();
        promise31FilmRefuses();
        promise31FilmIsOfBytes();
        check.end();
    }

    private static int asked(HandkerchiefsDropped x, int call, int s, int of, int what) {
        switch (call) {
            case 0: return x.judge(s);
            case KINDS: return x.kinds(s, of, what);
            case 2: return x.faces(s, of, what);
            case KEENS: return x.keens(s, of, what);
            case 4: return x.burnt(s);
            default: return x.laws(s);
        }
    }

    /** One witness of such a kind, more and face, at whom gentleman 0 alone may stoop; one of hers lies there. */
    private static HandkerchiefsDropped one(int kindMore, int face, int keen) {
        HandkerchiefsDropped x = new HandkerchiefsDropped();
        Check.allKeen(x, 0);
        x.court(1, 0, keen);
        x.witness(kindMore, 1, face);
        x.drop(0);
        return x;
    }

    private static void refusesSheet(int call) {
        HandkerchiefsDropped x = one(0, 50, 50);
        for (int s : Check.outside(0, 3)) {
            check.due(CALLS[call] + " BAD: SHEET", asked(x, call, s, 0, 0), BAD);
            check.due(CALLS[call] + " BAD: SHEET, ahead of all", asked(x, call, s, 9, 9), BAD);
        }
    }

    private static void refusesMissing(int call) {
        HandkerchiefsDropped x = one(0, 50, 50);
        for (int s = 0; s < 4; s++) {
            check.due(CALLS[call] + " -11: never there", asked(x, call, s, 0, 0), -11);
            x.sheet(s, 0, 40);
            x.sheet(s, -1, 40);
            check.due(CALLS[call] + " -11: missing again", asked(x, call, s, 0, 0), -11);
            check.due(CALLS[call] + " -11 ahead of -5 and -7", asked(x, call, s, 9, 9), -11);
        }
    }

    private static void refusesMoreThan20(int call) {
        HandkerchiefsDropped x = one(0, 50, 50);
        int[] byNone = {0, 0, -1, -1, 0, 0};
        for (int sort = 0; sort < 3; sort++) {
            x.sheet(0, sort, 21);
            check.due(CALLS[call] + " BAD: 21", asked(x, call, 0, 0, 1), BAD);
            check.due(CALLS[call] + " BAD: 21, ahead of -5 and -7", asked(x, call, 0, 9, 9), BAD);
            x.sheet(0, sort, 40);
            check.due(CALLS[call] + " BAD: 40", asked(x, call, 0, 0, 1), BAD);
            x.sheet(0, sort, 20);
            x.cell(0, 19, 5);
            check.due(CALLS[call] + " of 20", asked(x, call, 0, 0, 1), byNone[call]);
        }
    }

    private static void refusesNoneSuch(int call) {
        HandkerchiefsDropped x = one(0, 50, 50);
        Check.fill(x, 0, 0, 1);
        for (int of : Check.outside(0, call == KEENS ? 5 : 0)) {
            check.due(CALLS[call] + " -5: none such", asked(x, call, 0, of, 0), -5);
            check.due(CALLS[call] + " -5 ahead of -7", asked(x, call, 0, of, 2), -5);
        }
        HandkerchiefsDropped empty = new HandkerchiefsDropped();
        Check.fill(empty, 0, 0);
        check.due(CALLS[call] + " without WITNESSES", asked(empty, call, 0, 0, 0), call == KEENS ? 100 : -5);
    }

    private static void refusesWhat(int call) {
        HandkerchiefsDropped x = one(0, 50, 50);
        Check.fill(x, 0, 0, 1);
        for (int what : Check.outside(0, 1)) {
            check.due(CALLS[call] + " -7: " + what, asked(x, call, 0, 0, what), -7);
        }
    }

    private static void promise25Judge() {
        HandkerchiefsDropped x = one(0, 50, 50);
        Check.fill(x, 0, 0);
        check.due("it tells nothing: none", x.judge(0), -1);
        Check.fill(x, 0, 0, 1);
        check.due("behind 1 HOUR, not now: none", x.judge(0), -1);
        Check.fill(x, 0, 0, 0);
        check.due("from 0: the first", x.judge(0), 0);
        int[] row = new int[20];
        Arrays.fill(row, 1);
        Check.fill(x, 3, 0, row);
        check.due("20 at most: none", x.judge(3), -1);
        for (int i = 19; i >= 0; i--) {
            x.cell(3, i, 2);
            check.due("the first number that is otherwise", x.judge(3), i);
        }
        x.court(3, 0, 1023);
        Check.fill(x, 1, 0, 10, 10);
        check.due("all ten are ADMITTED", x.judge(1), -1);
    }

    private static void promise25JudgeOfSorts() {
        HandkerchiefsDropped x = one(0, 50, 50);
        int[][] same = {{0, 1}, {0, 257}, {0, -255}, {1, 1}, {1, 65537}, {1, -65535}, {2, 1}};
        for (int[] s : same) {
            Check.fill(x, 2, s[0], s[1]);
            check.due("of sort " + s[0] + ": " + s[1], x.judge(2), -1);
        }
        int[][] others = {{0, -1}, {0, 129}, {1, 257}, {1, -1}, {2, 257}, {2, 65537}, {2, -1}, {2, Integer.MIN_VALUE + 1}};
        for (int[] s : others) {
            Check.fill(x, 2, s[0], s[1]);
            check.due("of sort " + s[0] + ": " + s[1], x.judge(2), 0);
        }
    }

    private static void promise25JudgeOfMuch() {
        HandkerchiefsDropped x = new HandkerchiefsDropped();
        Check.fill(x, 0, 0, 0, 0, 0);
        check.due("no WITNESSES, nothing ADMITTED", x.judge(0), -1);
        x.court(2, 0, 999);
        check.due("behind HOUR 999", x.judge(0), -1);
        check.due("that is left as it is", x.count(1), 999);
    }

    private static void promise26Kinds() {
        HandkerchiefsDropped x = one(9, 99, 46);
        Check.fill(x, 0, 0);
        check.due("nothing is told: all KINDS", x.kinds(0, 0, 0), 63);
        check.due("nothing is told: all MORES", x.kinds(0, 0, 1), 1023);
        Check.fill(x, 0, 0, 1);
        // A widow's half of 99, with 46, is 95.
        check.due("all but WIDOW and GREY", x.kinds(0, 0, 0), 1 | 2 | 4 | 16);
        Check.fill(x, 0, 0, 0);
        check.due("WIDOW and GREY", x.kinds(0, 0, 0), 8 | 32);
        Check.fill(x, 0, 0, 5);
        check.due("none", x.kinds(0, 0, 0), 0);
        HandkerchiefsDropped y = one(0, 1, 1);
        Check.fill(y, 0, 0, 1);
        check.due("a LADY alone: 99 to GENTLEMAN 0", y.kinds(0, 0, 0), 2);
        HandkerchiefsDropped z = one(0, 1, 99);
        Check.fill(z, 0, 0, 0);
        check.due("GREY alone: 0 and 99", z.kinds(0, 0, 0), 32);
    }

    private static void promise26Mores() {
        HandkerchiefsDropped x = one(20, 99, 45);
        Check.fill(x, 0, 0, 0);
        check.due("MORE 9 alone: 54 and 45", x.kinds(0, 0, 1), 512);
        HandkerchiefsDropped y = one(29, 50, 50);
        Check.fill(y, 0, 0, 1);
        check.due("MORE 0 alone: 50 and 50", y.kinds(0, 0, 1), 1);
        HandkerchiefsDropped z = one(15, 0, 1);
        Check.fill(z, 0, 0, 1);
        check.due("MORE modulo 6 is 0", z.kinds(0, 0, 1), 1 | 64);
        check.due("her KIND and MORE stay", z.told(0, 3) * 10 + z.told(0, 4), 15);
    }

    private static void promise26OfHerAlone() {
        HandkerchiefsDropped x = one(0, 50, 50);
        x.witness(50, 1, 0);
        Check.fill(x, 0, 0, 1);
        check.due("hers does not lie there: all KINDS", x.kinds(0, 1, 0), 63);
        check.due("all MORES", x.kinds(0, 1, 1), 1023);
        Check.fill(x, 0, 0, 0);
        check.due("none", x.kinds(0, 1, 0), 0);
        check.due("none", x.kinds(0, 1, 1), 0);
        HandkerchiefsDropped y = one(0, 0, 0);
        y.hour();
        Check.fill(y, 0, 0, 0, 0, 0, 0, 0);
        check.due("for how long it lies there is told already", y.kinds(0, 0, 0) & 32, 32);
        check.due("LEFT stays", y.linen(0, 2), 5);
    }

    private static void fits(String what, int many, int least, int dueMany, int dueLeast) {
        check.due(what + ": how many", many, dueMany);
        check.due(what + ": the least", least, dueLeast);
    }

    private static void promise27Faces() {
        HandkerchiefsDropped x = one(0, 50, 1);
        Check.fill(x, 0, 0);
        fits("nothing is told: FACE 0 .. 99", x.faces(0, 0, 0), x.faces(0, 0, 1), 100, 0);
        Check.fill(x, 0, 0, 1);
        fits("99 alone", x.faces(0, 0, 0), x.faces(0, 0, 1), 1, 99);
        x.court(1, 0, 99);
        fits("all but 0", x.faces(0, 0, 0), x.faces(0, 0, 1), 99, 1);
        x.court(1, 0, 0);
        fits("none", x.faces(0, 0, 0), x.faces(0, 0, 1), 0, -1);
        Check.fill(x, 0, 0, 0);
        x.court(1, 0, 99);
        fits("0 alone", x.faces(0, 0, 0), x.faces(0, 0, 1), 1, 0);
        check.due("her FACE stays", x.told(0, 1), 50);
        Check.rule(x, "looks (face=7)+(face=50)+(face=90);waits 1;drops 0;");
        Check.fill(x, 0, 0, 1);
        fits("by THE LAW", x.faces(0, 0, 0), x.faces(0, 0, 1), 3, 7);
    }

    private static void promise28Keens() {
        HandkerchiefsDropped x = one(0, 1, 50);
        Check.fill(x, 0, 0);
        fits("nothing is told: KEEN 0 .. 99", x.keens(0, 0, 0), x.keens(0, 0, 1), 100, 0);
        Check.fill(x, 0, 0, 1);
        fits("99 alone", x.keens(0, 0, 0), x.keens(0, 0, 1), 1, 99);
        x.put(0, 1, 99);
        fits("all but 0", x.keens(0, 0, 0), x.keens(0, 0, 1), 99, 1);
        x.put(0, 1, 0);
        fits("none", x.keens(0, 0, 0), x.keens(0, 0, 1), 0, -1);
        x.put(0, 1, 99);
        Check.fill(x, 0, 0, 0);
        fits("0 alone", x.keens(0, 0, 0), x.keens(0, 0, 1), 1, 0);
        check.due("how KEEN he is stays", x.bench(1, 0), 50);
    }

    private static void promise28KeensOfWhoPasses() {
        HandkerchiefsDropped x = one(0, 50, 0);
        Check.fill(x, 0, 0, 0, 0, 0, 0, 0, 1);
        fits("the last GENTLEMAN, in her last HOUR", x.keens(0, 5, 0), x.keens(0, 5, 1), 50, 50);
        fits("another one", x.keens(0, 4, 0), x.keens(0, 4, 1), 0, -1);
        Check.fill(x, 0, 0, 0, 0, 0, 0, 0);
        fits("he does not pass in what is told", x.keens(0, 5, 0), x.keens(0, 5, 1), 100, 0);
    }

    private static void promise29Burnt() {
        HandkerchiefsDropped x = new HandkerchiefsDropped();
        Check.fill(x, 0, 0, 0);
        check.due("none is there", x.burnt(0), 0);
        x.witness(0, 1, 99);
        x.drop(0);
        check.due("the one that is there", x.burnt(0), 1);
        Check.fill(x, 0, 0, 1);
        check.due("not without it", x.burnt(0), 0);
        for (int h = 1; h < 7; h++) {
            x.drop(0);
        }
        x.put(0, 0, 2);
        x.drop(0);
        Check.fill(x, 0, 0);
        check.due("nothing is told: all that are there", x.burnt(0), 255);
        Check.fill(x, 0, 0, 1);
        check.due("the last one alone is of FACT 1", x.burnt(0), 128);
        Check.fill(x, 0, 0, 2);
        check.due("all others are of FACT 0", x.burnt(0), 127);
        x.burn(3);
        check.due("less one that isn't there", x.burnt(0), 119);
        check.due("the others are there still", x.count(2), 7);
    }

    private static void promise29JustThatOne() {
        HandkerchiefsDropped x = new HandkerchiefsDropped();
        x.witness(0, 1, 0);
        Check.rule(x, "looks 50*(lying<3);waits 9;drops 0;");
        x.drop(0);
        x.drop(0);
        x.drop(0);
        Check.fill(x, 0, 0, 1);
        check.due("any one less is enough", x.burnt(0), 7);
        x.drop(0);
        check.due("two less would be", x.burnt(0), 0);
    }

    private static void promise30Laws() {
        HandkerchiefsDropped x = one(0, 50, 50);
        Check.fill(x, 0, 0, 1);
        check.due("TEXT 0 alone", x.laws(0), 1);
        Check.fill(x, 0, 0, 0);
        check.due("not TEXT 0", x.laws(0), 0);
        for (int t = 1; t < 5; t++) {
            Check.read(x, "looks 50;waits 1;drops 0;");
        }
        Check.read(x, "looks 49;waits 1;drops 0;");
        x.force(3);
        Check.fill(x, 0, 0, 1);
        check.due("all but the last", x.laws(0), 31);
        Check.fill(x, 0, 0, 0);
        check.due("the last alone", x.laws(0), 32);
        Check.fill(x, 0, 0);
        check.due("nothing is told: all six", x.laws(0), 63);
        check.due("THE LAW stays", x.count(4), 3);
        check.due("what was let fall stays", x.linen(0, 2), 6);
    }

    private static void promise31Film() {
        HandkerchiefsDropped x = one(0, 50, 50);
        check.due("of 0 HOURS", x.film(0, 0), 0);
        check.due("it is there, and tells nothing", x.judge(0), -1);
        check.due("it has no number", x.cell(0, 0, 0), -12);
        check.due("of 20 HOURS", x.film(0, 20), 20);
        check.due("it is so", x.judge(0), -1);
        check.due("it has 20 numbers", x.cell(0, 19, 1) + x.cell(0, 20, 1), 1 - 12);
        check.due("a missing one becomes it", x.film(3, 1), 1);
        Check.fill(x, 1, 0, 1);
        x.copy(1, 0, 3, 0, 1);
        check.due("behind 1 HOUR, not now", x.judge(3), -1);
        x.court(3, 0, 1023);
        x.film(3, 2);
        Check.fill(x, 2, 0, 10, 10);
        x.court(3, 0, 0);
        check.due("all ten, though none is now", x.judge(3), 0);
        check.due("HOUR stays", x.count(1), 0);
        check.due("what lies there stays", x.count(2), 1);
    }

    private static void promise31FilmRefuses() {
        HandkerchiefsDropped x = one(0, 50, 50);
        Check.fill(x, 0, 2, 1, 1, 300);
        for (int s : Check.outside(0, 3)) {
            check.due("BAD: SHEET", x.film(s, 1), BAD);
            check.due("BAD: SHEET, ahead of -7", x.film(s, 21), BAD);
        }
        for (int n : Check.outside(0, 20)) {
            check.due("-7: n", x.film(0, n), -7);
            check.due("-7: n, of a missing one", x.film(3, n), -7);
        }
        check.due("a refusal leaves the SHEET", x.judge(0), 2);
        check.due("a refusal leaves it missing", x.judge(3), -11);
    }

    private static void promise31FilmIsOfBytes() {
        HandkerchiefsDropped x = one(0, 50, 50);
        for (int sort = 0; sort < 3; sort++) {
            x.sheet(0, sort, 40);
            x.film(0, 3);
            for (int other = 0; other < 3; other++) {
                x.sheet(1, other, 3);
                check.due("bytes, whatever it was", x.copy(0, 0, 1, 0, 3), other == 0 ? 3 : -13);
            }
            x.cell(0, 1, 257);
            check.due("its lowest 8 bits", x.judge(0), -1);
        }
    }
}
