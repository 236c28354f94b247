/** Promises 25 to 31: told hours. */
public final class TalesTest {
    private static final Check check = new Check("TalesTest");

    public static void main(String[] args) {
        judges();
        refusals();
        kinds();
        mores();
        faces();
        keens();
        burnt();
        laws();
        films();
        check.end();
    }

    /** Hour 0: nobody; hour 1: gentleman 1 is just keen enough for face 60, drops fact 0; fact 9 is admitted. */
    private static HandkerchiefsDropped corridor() {
        HandkerchiefsDropped x = new HandkerchiefsDropped();
        Check.allKeen(x, 0);
        x.court(1, 1, 40);
        x.court(3, 0, 512);
        x.witness(0, 1, 60);
        x.drop(0);
        return x;
    }

    private static void judges() {
        HandkerchiefsDropped x = corridor();
        for (int sort = 0; sort < 3; sort++) {
            Check.fill(x, 0, sort, 1, 2, 2);
            check.due("so it is", x.judge(0), -1);
            Check.fill(x, 3, sort, 1, 1, 2);
            check.due("the second is otherwise", x.judge(3), 1);
            Check.fill(x, 3, sort, 0, 1, 1);
            check.due("the first of several", x.judge(3), 0);
        }
        Check.fill(x, 2, 2);
        check.due("nothing is told", x.judge(2), -1);
        Check.fill(x, 2, 2, 257);
        check.due("an int", x.judge(2), 0);
        Check.fill(x, 2, 0, 257);
        check.due("a byte of it", x.judge(2), -1);
        Check.fill(x, 2, 1, 65537);
        check.due("a short of it", x.judge(2), -1);
        int[] twenty = {1, 2, 2, 2, 2, 2, 2, 2, 2, 2, 2, 2, 2, 2, 2, 2, 2, 2, 2, 3};
        Check.fill(x, 1, 0, twenty);
        check.due("the last", x.judge(1), 19);
        check.due("nothing changed", x.count(1), 0);
        check.due("nothing changed", x.count(2), 1);
    }

    private static long asked(HandkerchiefsDropped x, int call, int s, int of, int what) {
        switch (call) {
            case 0: return x.judge(s);
            case 1: return x.kinds(s, of, what);
            case 2: return x.faces(s, of, what);
            case 3: return x.keens(s, of, what);
            case 4: return x.burnt(s);
            default: return x.laws(s);
        }
    }

    private static void refusals() {
        HandkerchiefsDropped x = corridor();
        x.sheet(0, 0, 21);
        x.sheet(1, 0, 20);
        for (int call = 0; call < 6; call++) {
            check.due("sheet", asked(x, call, 4, 99, 99), -2);
            check.due("sheet", asked(x, call, -1, 0, 0), -2);
            check.due("missing", asked(x, call, 3, 99, 99), -11);
            check.due("more than 20", asked(x, call, 0, 99, 99), -2);
            check.due("20 are told", asked(x, call, 1, 0, 0), 0);
        }
        for (int call = 1; call < 4; call++) {
            check.due("none such", asked(x, call, 1, call == 3 ? 6 : 1, 99), -5);
            check.due("none such", asked(x, call, 1, -1, 0), -5);
            check.due("what", asked(x, call, 1, 0, 2), -7);
            check.due("what", asked(x, call, 1, 0, -1), -7);
        }
        check.due("the least, of none", x.faces(1, 0, 1), -1);
        check.due("the least, of none", x.keens(1, 0, 1), -1);
    }

    private static void kinds() {
        HandkerchiefsDropped x = corridor();
        // MORE is 0: a lady looks 99 to gentleman 0 alone, whose 0 is too few; a grey one looks 0.
        Check.fill(x, 0, 0, 1, 2);
        check.due("all but the grey", x.kinds(0, 0, 0), 31);
        Check.fill(x, 0, 0, 1, 1);
        check.due("the grey alone", x.kinds(0, 0, 0), 32);
        Check.fill(x, 0, 0, 2, 2);
        check.due("none", x.kinds(0, 0, 0), 0);
        x.court(1, 0, 1);
        check.due("the lady looks 99 to him", x.kinds(0, 0, 0), 2);
        check.due("her kind stays", x.told(0, 3), 0);
    }

    private static void mores() {
        HandkerchiefsDropped x = new HandkerchiefsDropped();
        x.witness(20, 1, 70);
        x.drop(0);
        Check.fill(x, 1, 1, 1);
        check.due("5 times more less: up to 4", x.kinds(1, 0, 1), 31);
        Check.fill(x, 1, 1, 0);
        check.due("from 5 on", x.kinds(1, 0, 1), 1023 - 31);
        check.due("her more stays", x.told(0, 4), 0);
        check.due("her more stays in thought, too", x.run(1, 0), 1);
        HandkerchiefsDropped y = new HandkerchiefsDropped();
        y.witness(19, 1, 0);
        y.court(2, 0, 2);
        y.drop(0);
        Check.fill(y, 1, 1, 1);
        check.due("to gentleman 2", y.kinds(1, 0, 1), 4 | 256);
    }

    private static void faces() {
        HandkerchiefsDropped x = corridor();
        Check.fill(x, 0, 2, 1, 2);
        check.due("how many", x.faces(0, 0, 0), 40);
        check.due("the least", x.faces(0, 0, 1), 60);
        Check.fill(x, 0, 2, 1, 1);
        check.due("how many", x.faces(0, 0, 0), 60);
        check.due("the least", x.faces(0, 0, 1), 0);
        Check.fill(x, 0, 2, 2);
        check.due("how many", x.faces(0, 0, 0), 0);
        check.due("the least", x.faces(0, 0, 1), -1);
        check.due("her face stays", x.told(0, 1), 60);
    }

    private static void keens() {
        HandkerchiefsDropped x = corridor();
        Check.fill(x, 0, 2, 1, 2);
        check.due("of him who passes", x.keens(0, 1, 0), 60);
        check.due("the least", x.keens(0, 1, 1), 40);
        check.due("of him who passes ahead", x.keens(0, 0, 0), 40);
        check.due("the least", x.keens(0, 0, 1), 0);
        check.due("of him who does not pass", x.keens(0, 5, 0), 100);
        Check.fill(x, 0, 2, 2, 2);
        check.due("of him who passes", x.keens(0, 1, 0), 0);
        check.due("the least", x.keens(0, 1, 1), -1);
        check.due("of him who passes ahead", x.keens(0, 0, 1), 40);
        check.due("how keen he is stays", x.bench(1, 0), 0);
    }

    private static void burnt() {
        HandkerchiefsDropped x = corridor();
        x.drop(0);
        x.put(0, 0, 2);
        x.drop(0);
        Check.fill(x, 0, 0, 1, 2);
        check.due("without fact 1", x.burnt(0), 4);
        Check.fill(x, 0, 0, 1, 3);
        check.due("without one of two of fact 0", x.burnt(0), 3);
        Check.fill(x, 0, 0, 1, 1);
        check.due("no one alone", x.burnt(0), 0);
        Check.fill(x, 0, 0);
        check.due("all that are there", x.burnt(0), 7);
        check.due("they are there still", x.count(2), 3);
    }

    private static void laws() {
        HandkerchiefsDropped x = corridor();
        Check.read(x, "looks 59;waits 1;drops 1;");
        Check.read(x, "looks 61;waits 1;drops 1;");
        Check.read(x, "looks hour*60;waits 1;drops 1;");
        Check.fill(x, 0, 0, 1, 2);
        check.due("by which", x.laws(0), 1 | 4 | 8);
        Check.fill(x, 0, 0, 1, 1);
        check.due("by which", x.laws(0), 2);
        Check.fill(x, 0, 0, 2, 1);
        check.due("by none", x.laws(0), 0);
        check.due("the law stays", x.count(4), 0);
    }

    private static void films() {
        HandkerchiefsDropped x = corridor();
        x.sheet(1, 2, 40);
        check.due("film", x.film(1, 20), 20);
        check.due("it is so", x.judge(1), -1);
        Check.fill(x, 2, 0, 1, 2, 2);
        check.due("film", x.film(0, 3), 3);
        check.due("of bytes", x.copy(2, 0, 0, 0, 3), 3);
        check.due("of three", x.cell(0, 3, 0), -12);
        check.due("film of none", x.film(0, 0), 0);
        check.due("of none", x.cell(0, 0, 0), -12);
        check.due("sheet", x.film(4, 21), -2);
        check.due("sheet", x.film(-1, 0), -2);
        check.due("n", x.film(0, 21), -7);
        check.due("n", x.film(3, -1), -7);
        check.due("missing still", x.judge(3), -11);
        check.due("in thought", x.count(1), 0);
        check.due("in thought", x.bench(2, 0), 512);
        x.film(0, 2);
        check.due("its first number", x.judge(0), -1);
        x.court(3, 0, 0);
        check.due("is 1", x.judge(0), 0);
    }
}
