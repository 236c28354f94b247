/** The boundary cases of promises 36 to 40, sentence by sentence: what is quoted is the document's. */
public final class HostEdgesTest {
    private static final int BAD = HandkerchiefsDropped.BAD;
    private static final Check check = new Check("HostEdgesTest");

    public static void main(String[] args) {
        promise36Sheet();
        promise36SheetRefuses();
        promise36SheetMissing();
        promise36SheetBecomesNew();
        promise37Cell();
        promise37CellRefuses();
        promise37CellOfBytes();
        promise37CellOfShorts();
        promise37CellOfInts();
        promise38CopyRefuses();
        promise38CopyOutside();
        promise38CopyOfNone();
        promise38CopyAsTheyWere();
        promise38CopyToItself();
        promise39WitnessesByRefuses();
        promise39WitnessesByOutside();
        promise39WhatStoodAheadCame();
        promise39OthersAreLeftOut();
        promise39WitnessesByIsFull();
        promise40Taken();
        promise40TakenRefuses();
        promise40TakenNoneSuch();
        promise40TakenOfAnother();
        check.end();
    }

    private static void promise36Sheet() {
        HandkerchiefsDropped x = new HandkerchiefsDropped();
        for (int s = 0; s < 4; s++) {
            for (int sort = 0; sort < 3; sort++) {
                check.due("of none", x.sheet(s, sort, 0), 1);
                check.due("of none: outside", x.cell(s, 0, 0), -12);
                check.due("of one", x.sheet(s, sort, 1), 1);
                check.due("of one: inside", x.cell(s, 0, 0), 1);
                check.due("of one: outside", x.cell(s, 1, 0), -12);
                check.due("40 at most", x.sheet(s, sort, 40), 1);
                check.due("of 40: inside", x.cell(s, 39, 0), 1);
                check.due("of 40: outside", x.cell(s, 40, 0), -12);
            }
        }
    }

    private static void promise36SheetRefuses() {
        HandkerchiefsDropped x = new HandkerchiefsDropped();
        Check.fill(x, 0, 2, 0, 0, 7);
        for (int s : Check.outside(0, 3)) {
            check.due("BAD: SHEET", x.sheet(s, 0, 1), BAD);
            check.due("BAD: SHEET, to be missing", x.sheet(s, -1, 1), BAD);
            check.due("BAD: SHEET, ahead of -14", x.sheet(s, 0, -1), BAD);
        }
        for (int sort : Check.outside(-1, 2)) {
            check.due("BAD: sort", x.sheet(0, sort, 1), BAD);
            check.due("BAD: sort, ahead of -14", x.sheet(0, sort, -1), BAD);
        }
        int[] sizes = {41, 42, 1000, Integer.MAX_VALUE};
        int[] below = {-1, -2, -41, Integer.MIN_VALUE};
        for (int sort = 0; sort < 3; sort++) {
            for (int i = 0; i < sizes.length; i++) {
                check.due("BAD: n above 40", x.sheet(0, sort, sizes[i]), BAD);
                check.due("-14: a size below 0", x.sheet(0, sort, below[i]), -14);
            }
        }
        check.due("a refusal leaves the SHEET", x.judge(0), 2);
        check.due("a refusal leaves its sort", x.witnessesBy(0, 2, 0, 1), 1);
    }

    private static void promise36SheetMissing() {
        HandkerchiefsDropped x = new HandkerchiefsDropped();
        int[] any = {Integer.MIN_VALUE, -1, 0, 40, 41, Integer.MAX_VALUE};
        for (int n : any) {
            x.sheet(1, 0, 5);
            check.due("missing: n does not matter", x.sheet(1, -1, n), 1);
            check.due("-11: nothing there", x.cell(1, 0, 0), -11);
            check.due("missing again", x.sheet(1, -1, n), 1);
        }
        check.due("a missing one becomes a row", x.sheet(1, 1, 2), 1);
        check.due("it is there", x.cell(1, 1, 0), 1);
    }

    private static void promise36SheetBecomesNew() {
        HandkerchiefsDropped x = new HandkerchiefsDropped();
        Check.fill(x, 0, 2, 1, 2, 3);
        x.sheet(0, 1, 3);
        check.due("all 0", x.judge(0), -1);
        check.due("of the new sort", x.witnessesBy(0, 1, 0, 1), 1);
        Check.fill(x, 0, 2, 1, 2, 3);
        x.sheet(0, 2, 2);
        check.due("of the new size", x.cell(0, 2, 0), -12);
        x.sheet(0, 2, 3);
        check.due("what lay beyond is 0, too", x.judge(0), -1);
        x.cell(0, 0, 9);
        x.sheet(0, -1, 0);
        x.sheet(0, 2, 3);
        check.due("what it was ahead of missing is 0, too", x.judge(0), -1);
    }

    private static void promise37Cell() {
        HandkerchiefsDropped x = new HandkerchiefsDropped();
        Check.fill(x, 0, 2, 0, 0, 0);
        Check.fill(x, 1, 2, 0, 0, 0);
        check.due("number i", x.cell(0, 1, 5), 1);
        check.due("that one alone", x.judge(0), 1);
        check.due("of that SHEET alone", x.judge(1), -1);
        check.due("becomes v again", x.cell(0, 1, 0), 1);
        check.due("as it was", x.judge(0), -1);
    }

    private static void promise37CellRefuses() {
        HandkerchiefsDropped x = new HandkerchiefsDropped();
        x.sheet(0, 0, 3);
        for (int s : Check.outside(0, 3)) {
            check.due("BAD: SHEET", x.cell(s, 0, 0), BAD);
            check.due("BAD: SHEET, ahead of -12", x.cell(s, -1, 0), BAD);
        }
        for (int i : Check.outside(0, 2)) {
            check.due("-12: a place outside", x.cell(0, i, 7), -12);
            check.due("-11, then -12", x.cell(1, i, 7), -11);
        }
        check.due("-11: nothing there", x.cell(3, 0, 7), -11);
        check.due("a refusal leaves the SHEET", x.judge(0), -1);
    }

    /** What the number of a sheet of a sort is, once v was put in: as KNOWN of a witness made by it; -1: no bits. */
    private static int known(int sort, int v) {
        HandkerchiefsDropped x = new HandkerchiefsDropped();
        Check.fill(x, 0, sort, 0, v, 0);
        return x.witnessesBy(0, sort, 0, 1) == 1 ? x.told(0, 0) : -1;
    }

    private static void promise37CellOfBytes() {
        int[][] due = {{0, 0}, {127, 127}, {128, -1}, {255, -1}, {256, 0}, {257, 1}, {383, 127}, {384, -1}, {-1, -1},
            {-128, -1}, {-129, 127}, {-256, 0}, {1023, -1}, {Integer.MAX_VALUE, -1}, {Integer.MIN_VALUE, 0}};
        for (int[] d : due) {
            check.due("of bytes its lowest 8 bits, as a byte of the host's: " + d[0], known(0, d[0]), d[1]);
        }
    }

    private static void promise37CellOfShorts() {
        int[][] due = {{0, 0}, {127, 127}, {128, 128}, {255, 255}, {1023, 1023}, {1024, -1}, {32768, -1}, {65535, -1},
            {65536, 0}, {66559, 1023}, {66560, -1}, {-1, -1}, {-65536, 0}, {-64513, 1023},
            {Integer.MAX_VALUE, -1}, {Integer.MIN_VALUE, 0}};
        for (int[] d : due) {
            check.due("of shorts its lowest 16 bits: " + d[0], known(1, d[0]), d[1]);
        }
    }

    private static void promise37CellOfInts() {
        int[][] due = {{0, 0}, {255, 255}, {1023, 1023}, {1024, -1}, {65536, -1}, {66559, -1}, {-1, -1},
            {Integer.MAX_VALUE, -1}, {Integer.MIN_VALUE, -1}};
        for (int[] d : due) {
            check.due("of ints all of it: " + d[0], known(2, d[0]), d[1]);
        }
    }

    private static void promise38CopyRefuses() {
        HandkerchiefsDropped x = new HandkerchiefsDropped();
        for (int sort = 0; sort < 3; sort++) {
            x.sheet(sort, sort, 5);
        }
        for (int s : Check.outside(0, 3)) {
            check.due("BAD: SHEET", x.copy(s, 0, 0, 0, 1), BAD);
            check.due("BAD: the other", x.copy(0, 0, s, 0, 1), BAD);
            check.due("BAD: SHEET, ahead of -11", x.copy(s, 0, 3, 0, 1), BAD);
            check.due("BAD: the other, ahead of -11", x.copy(3, 0, s, 0, 1), BAD);
            check.due("BAD ahead of -12", x.copy(s, -1, 0, -1, -1), BAD);
        }
        for (int s = 0; s < 3; s++) {
            check.due("-11: nothing there", x.copy(s, 0, 3, 0, 1), -11);
            check.due("-11: nothing there", x.copy(3, 0, s, 0, 1), -11);
            check.due("-11 ahead of -12", x.copy(3, -1, s, -1, -1), -11);
            for (int other = 0; other < 3; other++) {
                check.due("-13: unlike sorts", x.copy(s, 0, other, 0, 1), s == other ? 1 : -13);
                check.due("-13 ahead of -12", x.copy(s, 6, other, -1, -1), s == other ? -12 : -13);
                check.due("-13 of none, too", x.copy(s, 0, other, 0, 0), s == other ? 0 : -13);
            }
        }
        check.due("-11 of both", x.copy(3, 0, 3, 0, 0), -11);
    }

    private static void promise38CopyOutside() {
        HandkerchiefsDropped x = new HandkerchiefsDropped();
        Check.fill(x, 0, 2, 1, 1, 1, 1, 1);
        x.sheet(1, 2, 3);
        for (int i : Check.outside(0, 4)) {
            check.due("-12: i", x.copy(0, i, 1, 0, 1), -12);
        }
        for (int j : Check.outside(0, 2)) {
            check.due("-12: j", x.copy(0, 0, 1, j, 1), -12);
        }
        for (int n : Check.outside(0, 3)) {
            check.due("-12: n", x.copy(0, 0, 1, 0, n), -12);
            check.due("-12: n, to itself", x.copy(0, 2, 0, 0, n), -12);
            check.due("-12: n, to itself", x.copy(0, 0, 0, 2, n), -12);
        }
        check.due("-12: i and n wrap round", x.copy(0, Integer.MAX_VALUE, 1, 0, Integer.MAX_VALUE), -12);
        check.due("-12: j and n wrap round", x.copy(0, 0, 1, Integer.MAX_VALUE, 2), -12);
        check.due("-12: i and n below 0", x.copy(0, 4, 1, 0, -1), -12);
        check.due("-12: 3 from the third on", x.copy(0, 3, 1, 0, 3), -12);
        check.due("-12: 3 to the second", x.copy(0, 0, 1, 1, 3), -12);
        check.due("a refusal leaves the other", x.judge(1), -1);
        check.due("3 to the end", x.copy(0, 2, 1, 0, 3), 3);
        check.due("they came", x.judge(1), 0);
    }

    private static void promise38CopyOfNone() {
        HandkerchiefsDropped x = new HandkerchiefsDropped();
        x.sheet(0, 1, 5);
        x.sheet(1, 1, 0);
        check.due("none from the end, to the end", x.copy(0, 5, 1, 0, 0), 0);
        check.due("none from an empty one", x.copy(1, 0, 0, 5, 0), 0);
        check.due("none to itself", x.copy(1, 0, 1, 0, 0), 0);
        check.due("-12: none from beyond the end", x.copy(0, 6, 1, 0, 0), -12);
        check.due("-12: none from ahead", x.copy(0, -1, 1, 0, 0), -12);
        check.due("-12: none to beyond the end", x.copy(0, 0, 1, 1, 0), -12);
        check.due("-12: none to ahead", x.copy(0, 0, 1, -1, 0), -12);
        check.due("-12: one from an empty one", x.copy(1, 0, 0, 0, 1), -12);
    }

    /** The numbers of a sheet of ints, by the faces of witnesses made by them, six at a time. */
    private static void row(String what, HandkerchiefsDropped x, int s, int... due) {
        for (int i = 0; i < due.length; i++) {
            x.sheet(3, 2, 3);
            x.copy(s, i, 3, 2, 1);
            x.image();
            check.due(what, x.witnessesBy(3, 2, 0, 1), 1);
            check.due(what + " at " + i, x.told(0, 1), due[i]);
            x.back();
        }
    }

    private static void promise38CopyAsTheyWere() {
        for (int i = 0; i <= 4; i++) {
            for (int j = 0; j <= 4; j++) {
                for (int n = 0; n <= 4 - Math.max(i, j); n++) {
                    HandkerchiefsDropped x = new HandkerchiefsDropped();
                    int[] due = {10, 11, 12, 13};
                    int[] were = due.clone();
                    Check.fill(x, 0, 2, were);
                    check.due("to its own place", x.copy(0, i, 0, j, n), n);
                    for (int k = 0; k < n; k++) {
                        due[j + k] = were[i + k];
                    }
                    row("as they were", x, 0, due);
                }
            }
        }
    }

    private static void promise38CopyToItself() {
        HandkerchiefsDropped x = new HandkerchiefsDropped();
        Check.fill(x, 0, 2, 1, 2, 3);
        Check.fill(x, 1, 2, 4, 5, 6);
        check.due("all of it", x.copy(0, 0, 1, 0, 3), 3);
        row("the other's", x, 1, 1, 2, 3);
        x.cell(0, 0, 9);
        row("it is a copy", x, 1, 1, 2, 3);
        row("its own", x, 0, 9, 2, 3);
    }

    private static void promise39WitnessesByRefuses() {
        HandkerchiefsDropped x = new HandkerchiefsDropped();
        for (int sort = 0; sort < 3; sort++) {
            x.sheet(sort, sort, 18);
        }
        for (int s : Check.outside(0, 3)) {
            check.due("BAD: SHEET", x.witnessesBy(s, 0, 0, 1), BAD);
        }
        for (int bad : Check.outside(0, 2)) {
            check.due("BAD: sort", x.witnessesBy(0, bad, 0, 1), BAD);
            check.due("BAD: sort, ahead of -11", x.witnessesBy(3, bad, 0, 1), BAD);
        }
        for (int n : Check.outside(0, 6)) {
            check.due("BAD: n", x.witnessesBy(0, 0, 0, n), BAD);
            check.due("BAD: n, ahead of -11", x.witnessesBy(3, 0, 0, n), BAD);
            check.due("BAD: n, ahead of -13", x.witnessesBy(0, 1, 0, n), BAD);
        }
        for (int sort = 0; sort < 3; sort++) {
            check.due("-11: nothing there", x.witnessesBy(3, sort, 0, 1), -11);
            check.due("-11 ahead of -12", x.witnessesBy(3, sort, -1, 6), -11);
            for (int s = 0; s < 3; s++) {
                check.due("-13: of another sort", x.witnessesBy(s, sort, 0, 0), s == sort ? 0 : -13);
                check.due("-13 ahead of -12", x.witnessesBy(s, sort, -1, 1), s == sort ? -12 : -13);
            }
        }
        check.due("a refusal brings none", x.count(0), 0);
    }

    private static void promise39WitnessesByOutside() {
        HandkerchiefsDropped x = new HandkerchiefsDropped();
        x.sheet(0, 2, 5);
        int[] outside = {Integer.MIN_VALUE, -3, -2, -1, 3, 4, 5, 6, Integer.MAX_VALUE - 2, Integer.MAX_VALUE};
        for (int from : outside) {
            check.due("-12: one of the three is outside", x.witnessesBy(0, 2, from, 1), -12);
            check.due("-12: of six", x.witnessesBy(0, 2, from, 6), -12);
        }
        check.due("none of them came", x.count(0), 0);
        for (int from = 0; from < 3; from++) {
            check.due("from a place on", x.witnessesBy(0, 2, from, 1), 1);
        }
        x.sheet(1, 2, 0);
        check.due("n 0 of an empty one", x.witnessesBy(1, 2, 0, 0), 0);
        check.due("-12 of an empty one", x.witnessesBy(1, 2, 0, 1), -12);
    }

    private static void promise39WhatStoodAheadCame() {
        for (int size = 0; size <= 9; size++) {
            HandkerchiefsDropped x = new HandkerchiefsDropped();
            x.sheet(0, 1, size);
            check.due("-12 of size " + size, x.witnessesBy(0, 1, 0, 3), size < 9 ? -12 : 3);
            check.due("what stood ahead came, of size " + size, x.count(0), size / 3);
        }
        HandkerchiefsDropped y = new HandkerchiefsDropped();
        Check.fill(y, 0, 1, 60, 0, 0, 11, 7, 9, 0, 0);
        check.due("-12 behind one that is left out and one that came", y.witnessesBy(0, 1, 0, 6), -12);
        check.due("what stood ahead came", y.count(0), 1);
        check.due("its KNOWN", y.told(0, 0), 7);
        HandkerchiefsDropped z = new HandkerchiefsDropped();
        z.sheet(0, 2, 40);
        check.due("six, to the last but one", z.witnessesBy(0, 2, 21, 6), 6);
        check.due("FULL, then -12", z.witnessesBy(0, 2, 39, 1), -12);
        check.due("FULL, then -12, of several", z.witnessesBy(0, 2, 35, 2), -12);
    }

    private static void promise39OthersAreLeftOut() {
        HandkerchiefsDropped x = new HandkerchiefsDropped();
        Check.fill(x, 0, 2, -1, 0, 0, 60, 0, 0, 0, -1, 0, 0, 1024, 0, 0, 0, -1, 0, 0, 100);
        check.due("all are left out", x.witnessesBy(0, 2, 0, 6), 0);
        check.due("none came", x.count(0), 0);
        Check.fill(x, 0, 2, 0, 0, 0, 60, 0, 0, 59, 1023, 99, 0, 1024, 0);
        check.due("the first and the last", x.witnessesBy(0, 2, 0, 4), 2);
        check.due("the second that came", x.told(1, 3) * 10 + x.told(1, 4), 59);
        check.due("its KNOWN", x.told(1, 0), 1023);
        check.due("its FACE", x.told(1, 1), 99);
    }

    private static void promise39WitnessesByIsFull() {
        HandkerchiefsDropped x = new HandkerchiefsDropped();
        for (int p = 0; p < 4; p++) {
            x.witness(0, 1, 1);
        }
        x.sheet(0, 0, 18);
        check.due("two find room, others are left out", x.witnessesBy(0, 0, 0, 6), 2);
        check.due("6 at most", x.count(0), 6);
        check.due("no room at all", x.witnessesBy(0, 0, 0, 6), 0);
        check.due("none is asked for", x.witnessesBy(0, 0, 0, 0), 0);
    }

    private static void promise40Taken() {
        HandkerchiefsDropped x = new HandkerchiefsDropped();
        int[][] takenFor = {{0}, {1, 0}, {2, 0}, {3, 1, 0}, {4, 2, 0}, {5, 0}};
        for (int kind = 0; kind < 6; kind++) {
            x.witness(kind * 10 + 9, 512, 0);
            for (int asked = 0; asked <= 6; asked++) {
                int due = -13;
                for (int k : takenFor[kind]) {
                    due = k == asked ? kind : due;
                }
                check.due("KIND " + kind + " taken for " + asked, x.taken(kind, asked), due);
            }
        }
        for (int h = 0; h < 8; h++) {
            check.due("-11: not there yet", x.taken(6 + h, 6), -11);
            x.drop(0);
            check.due("of which FACT it is", x.taken(6 + h, 6), 9);
        }
    }

    private static void promise40TakenRefuses() {
        HandkerchiefsDropped x = new HandkerchiefsDropped();
        x.witness(0, 1, 0);
        x.drop(0);
        for (int kind : Check.outside(0, 6)) {
            check.due("BAD: kind", x.taken(0, kind), BAD);
            check.due("BAD: kind, ahead of -12", x.taken(14, kind), BAD);
            check.due("BAD: kind, ahead of -11", x.taken(1, kind), BAD);
        }
        for (int i : Check.outside(0, 13)) {
            for (int kind = 0; kind <= 6; kind++) {
                check.due("-12: i", x.taken(i, kind), -12);
            }
        }
    }

    private static void promise40TakenNoneSuch() {
        HandkerchiefsDropped x = new HandkerchiefsDropped();
        x.witness(0, 1, 0);
        x.drop(0);
        for (int i = 1; i < 14; i++) {
            for (int kind = 0; kind <= 6 && i != 6; kind++) {
                check.due("-11: none such, ahead of -13", x.taken(i, kind), -11);
            }
        }
        x.burn(0);
        check.due("-11: burnt", x.taken(6, 6), -11);
        x.drop(0);
        x.court(1, 0, 99);
        x.put(0, 1, 99);
        x.hour();
        check.due("-11: picked up", x.taken(6, 6), -11);
    }

    private static void promise40TakenOfAnother() {
        HandkerchiefsDropped x = new HandkerchiefsDropped();
        x.witness(39, 1, 0);
        x.drop(0);
        check.due("-13: a WITNESS is no HANDKERCHIEF", x.taken(0, 6), -13);
        for (int kind = 0; kind < 6; kind++) {
            check.due("-13: a HANDKERCHIEF is no WITNESS", x.taken(6, kind), -13);
        }
        check.due("a HANDKERCHIEF of FACT 0", x.taken(6, 6), 0);
        check.due("a WIDOW is no MAID", x.taken(0, 4), -13);
        check.due("a WIDOW is a LADY", x.taken(0, 1), 0);
    }
}
