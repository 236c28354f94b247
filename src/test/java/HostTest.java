/** Promises 36 to 40: the host. */
public final class HostTest {
    private static final Check check = new Check("HostTest");

    public static void main(String[] args) {
        sheets();
        cells();
        copies();
        copiesRefuse();
        witnessesBy();
        witnessesByRefuse();
        taken();
        takenRefuses();
        check.end();
    }

    private static void sheets() {
        HandkerchiefsDropped x = new HandkerchiefsDropped();
        check.due("s", x.sheet(-1, 0, 1), -2);
        check.due("s", x.sheet(4, 0, -1), -2);
        check.due("sort", x.sheet(0, -2, 1), -2);
        check.due("sort", x.sheet(0, 3, -1), -2);
        check.due("n", x.sheet(0, 0, 41), -2);
        check.due("n", x.sheet(0, 2, -1), -14);
        check.due("n", x.sheet(0, 2, Integer.MIN_VALUE), -14);
        check.due("missing still", x.cell(0, 0, 0), -11);
        check.due("of 40", x.sheet(0, 2, 40), 1);
        check.due("the last", x.cell(0, 39, 7), 1);
        check.due("outside", x.cell(0, 40, 7), -12);
        check.due("of 0", x.sheet(3, 1, 0), 1);
        check.due("outside", x.cell(3, 0, 7), -12);
        check.due("refused", x.sheet(0, 0, 41), -2);
        check.due("it stays", x.cell(0, 39, 7), 1);
        check.due("missing, whatever n", x.sheet(0, -1, 41), 1);
        check.due("missing", x.cell(0, 39, 7), -11);
        Check.fill(x, 1, 0, 5, 5);
        x.sheet(1, 0, 2);
        check.due("all 0", x.judge(1), -1);
    }

    private static void cells() {
        HandkerchiefsDropped x = new HandkerchiefsDropped();
        x.sheet(0, 0, 2);
        check.due("s", x.cell(-1, 0, 0), -2);
        check.due("s", x.cell(4, 0, 0), -2);
        check.due("missing", x.cell(1, -1, 0), -11);
        check.due("outside", x.cell(0, -1, 0), -12);
        check.due("outside", x.cell(0, 2, 0), -12);
        check.due("cell", x.cell(0, 1, 256), 1);
        check.due("lowest 8 bits", x.judge(0), -1);
        x.cell(0, 1, 255);
        check.due("are not 0", x.judge(0), 1);
        // A byte is read as the host reads one: 200 is -56, and no witness's face.
        Check.fill(x, 1, 0, 0, 1, 99, 0, 1, 200);
        check.due("one came", x.witnessesBy(1, 0, 0, 2), 1);
        Check.fill(x, 2, 1, 0, 65536 + 1023, 65536 * 3 + 99);
        check.due("lowest 16 bits", x.witnessesBy(2, 1, 0, 1), 1);
        check.due("known", x.told(1, 0), 1023);
        check.due("face", x.told(1, 1), 99);
        Check.fill(x, 2, 2, 0, 65536 + 1023, 3);
        check.due("an int stays", x.witnessesBy(2, 2, 0, 1), 0);
    }

    /** The numbers of a sheet of ints, told by the faces of witnesses made by them. */
    private static void row(String what, HandkerchiefsDropped x, int s, int... due) {
        x.sheet(3, 2, 18);
        for (int i = 0; i < due.length; i++) {
            x.copy(s, i, 3, 3 * i + 2, 1);
        }
        x.image();
        check.due(what, x.witnessesBy(3, 2, 0, due.length), due.length);
        for (int i = 0; i < due.length; i++) {
            check.due(what + " at " + i, x.told(i, 1), due[i]);
        }
        x.back();
    }

    private static void copies() {
        HandkerchiefsDropped x = new HandkerchiefsDropped();
        Check.fill(x, 0, 2, 1, 2, 3, 4, 5, 6);
        Check.fill(x, 1, 2, 11, 12, 13);
        check.due("copy", x.copy(0, 3, 1, 1, 2), 2);
        row("to another", x, 1, 11, 4, 5);
        row("from it", x, 0, 1, 2, 3, 4, 5, 6);
        check.due("copy up", x.copy(0, 0, 0, 1, 5), 5);
        row("as they were", x, 0, 1, 1, 2, 3, 4, 5);
        check.due("copy down", x.copy(0, 2, 0, 0, 4), 4);
        row("as they were", x, 0, 2, 3, 4, 5, 4, 5);
        check.due("none at the end", x.copy(0, 6, 1, 3, 0), 0);
        check.due("all", x.copy(0, 0, 0, 0, 6), 6);
    }

    private static void copiesRefuse() {
        HandkerchiefsDropped x = new HandkerchiefsDropped();
        x.sheet(0, 2, 6);
        x.sheet(1, 1, 6);
        x.sheet(2, 2, 3);
        check.due("s", x.copy(-1, 0, 3, 0, -1), -2);
        check.due("other", x.copy(3, 0, 4, 0, -1), -2);
        check.due("missing", x.copy(3, 0, 0, 0, -1), -11);
        check.due("missing", x.copy(0, 0, 3, 0, -1), -11);
        check.due("sorts", x.copy(0, 0, 1, 0, -1), -13);
        check.due("n", x.copy(0, 0, 2, 0, -1), -12);
        check.due("n", x.copy(0, 0, 2, 0, Integer.MIN_VALUE), -12);
        check.due("n", x.copy(0, 1, 0, 0, Integer.MAX_VALUE), -12);
        check.due("i", x.copy(0, -1, 2, 0, 1), -12);
        check.due("i", x.copy(0, 6, 2, 0, 1), -12);
        check.due("i", x.copy(0, 7, 2, 0, 0), -12);
        check.due("i", x.copy(0, Integer.MAX_VALUE, 2, 0, 1), -12);
        check.due("j", x.copy(0, 0, 2, -1, 1), -12);
        check.due("j", x.copy(0, 0, 2, 1, 3), -12);
        check.due("j", x.copy(0, 0, 2, 4, 0), -12);
        check.due("j", x.copy(0, 0, 2, Integer.MAX_VALUE, 1), -12);
        check.due("to the end", x.copy(0, 3, 2, 0, 3), 3);
    }

    private static void witnessesBy() {
        HandkerchiefsDropped x = new HandkerchiefsDropped();
        Check.fill(x, 0, 1, 9, 0, 7, 1, 60, 10, 0, 57, 1023, 99);
        check.due("none", x.witnessesBy(0, 1, 0, 0), 0);
        check.due("one is left out", x.witnessesBy(0, 1, 1, 3), 2);
        check.due("kind", x.told(0, 3), 0);
        check.due("more", x.told(0, 4), 0);
        check.due("known", x.told(0, 0), 7);
        check.due("face", x.told(0, 1), 1);
        check.due("kind of the third, the second is left out", x.told(1, 3), 5);
        check.due("what came", x.count(0), 2);
        HandkerchiefsDropped y = new HandkerchiefsDropped();
        y.sheet(0, 0, 40);
        check.due("six", y.witnessesBy(0, 0, 22, 6), 6);
        check.due("full: left out", y.witnessesBy(0, 0, 0, 6), 0);
    }

    private static void witnessesByRefuse() {
        HandkerchiefsDropped x = new HandkerchiefsDropped();
        x.sheet(0, 1, 8);
        check.due("s", x.witnessesBy(4, 1, 0, 1), -2);
        check.due("s", x.witnessesBy(-1, 1, 0, 1), -2);
        check.due("sort", x.witnessesBy(1, 3, 0, 1), -2);
        check.due("sort", x.witnessesBy(1, -1, 0, 1), -2);
        check.due("n", x.witnessesBy(1, 1, 0, 7), -2);
        check.due("n", x.witnessesBy(1, 1, 0, -1), -2);
        check.due("missing", x.witnessesBy(1, 0, -1, 1), -11);
        check.due("of another sort", x.witnessesBy(0, 2, -1, 1), -13);
        check.due("from", x.witnessesBy(0, 1, -1, 2), -12);
        check.due("from", x.witnessesBy(0, 1, -3, 2), -12);
        check.due("from", x.witnessesBy(0, 1, Integer.MAX_VALUE, 2), -12);
        check.due("from", x.witnessesBy(0, 1, Integer.MIN_VALUE, 2), -12);
        check.due("none came", x.count(0), 0);
        check.due("the third is not whole", x.witnessesBy(0, 1, 0, 3), -12);
        check.due("two stood ahead", x.count(0), 2);
    }

    private static void taken() {
        HandkerchiefsDropped x = new HandkerchiefsDropped();
        for (int kind = 0; kind < 6; kind++) {
            x.witness(kind * 10, 16, 0);
        }
        // Which kinds one of a kind can be taken for, as bits.
        int[] allowed = {1, 1 | 2, 1 | 4, 1 | 2 | 8, 1 | 4 | 16, 1 | 32};
        for (int p = 0; p < 6; p++) {
            for (int kind = 0; kind < 6; kind++) {
                check.due("taken " + p + " for " + kind, x.taken(p, kind), (allowed[p] >> kind & 1) == 1 ? p : -13);
            }
            check.due("taken " + p + " for 6", x.taken(p, 6), -13);
        }
        for (int h = 0; h < 8; h++) {
            x.drop(0);
        }
        for (int i = 6; i < 14; i++) {
            check.due("taken " + i, x.taken(i, 6), 4);
            check.due("taken " + i, x.taken(i, 0), -13);
            check.due("taken " + i, x.taken(i, 5), -13);
        }
    }

    private static void takenRefuses() {
        HandkerchiefsDropped x = new HandkerchiefsDropped();
        check.due("kind", x.taken(-1, 7), -2);
        check.due("kind", x.taken(0, -1), -2);
        check.due("i", x.taken(-1, 6), -12);
        check.due("i", x.taken(14, 0), -12);
        check.due("none such", x.taken(0, 6), -11);
        check.due("none such", x.taken(5, 0), -11);
        check.due("none such", x.taken(6, 0), -11);
        check.due("none such", x.taken(13, 6), -11);
    }
}
