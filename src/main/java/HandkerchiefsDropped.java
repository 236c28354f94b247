import java.util.Arrays;

/** An assize with its witnesses, gentlemen and handkerchiefs, as ../shared/DOC.md promises it. */
public final class HandkerchiefsDropped {
    public static final int NONE = -1, BAD = -2, STATE = -3, FULL = -4;
    public static final long NO = -4611686018427387904L;

    private static final int NOTHING_THERE = -11, OUTSIDE = -12, OTHER_SORT = -13, BELOW_ZERO = -14;
    private static final int NO_WITNESS = -5, NO_LINEN = -6, WRONG_WHAT = -7;
    private static final int NONE_ASKED = -1000, NONE_SUCH = -5000, WRONG_VALUE = -7000;

    private static final int FACTS = 10, ALL_FACTS = 1023, GENTLEMEN = 6, WITNESSES = 6, LINENS = 8;
    private static final int KINDS = 6, MORES = 10, TEXTS = 6, TAPE = 160, SHEETS = 4, CELLS = 40;
    private static final int MOST = 99, ENOUGH = 100, LAST_HOUR = 999, LAST_SEED = 99999, MOST_SEEDS = 40;
    private static final int LONGEST_RUN = 40, LONGEST_WAY = 60, LONGEST_TALE = 20;
    private static final int LONGEST_ROW = 3, HOURS_BEHIND_ROW = 12, DRAWN_HOURS = 10;

    private final Law[] texts = new Law[TEXTS];
    private final Tape tape = new Tape();
    private final Sheet[] sheets = new Sheet[SHEETS];
    private final Assize now;
    private final Assize kept;
    private final Assize thought;
    /** How things stand behind 0, 1, .. witnesses of a row that is tried; behind none they stand as now. */
    private final Assize[] behind = new Assize[LONGEST_ROW + 1];
    private int textCount;
    private boolean hasImage;
    private int bestRow;
    private int bestVerdict;

    public HandkerchiefsDropped() {
        Law first = new Law(0, new int[] {Law.FACE, 6, Law.HOUR}, 1, 2);
        texts[0] = first;
        textCount = 1;
        int[] stack = new int[TAPE];
        now = new Assize(first, stack);
        kept = new Assize(first, stack);
        thought = new Assize(first, stack);
        behind[0] = now;
        for (int i = 1; i < behind.length; i++) {
            behind[i] = new Assize(first, stack);
        }
        for (int s = 0; s < SHEETS; s++) {
            sheets[s] = new Sheet();
        }
    }

    // ---- the court, the law, witnesses

    public int count(int what) {
        switch (what) {
            case 0: return now.witnesses;
            case 1: return now.hour;
            case 2: return now.lying();
            case 3: return textCount;
            case 4: return now.law.number;
            case 5: return tape.size;
            default: return BAD;
        }
    }

    public int court(int what, int of, int v) {
        if (!isOfCourt(what, of)) {
            return NONE_SUCH;
        }
        if (v < (what == 0 ? -MOST : 0) || v > mostOfCourt(what)) {
            return WRONG_VALUE;
        }
        if (what < 2) {
            return replaced(what == 0 ? now.weights : now.keen, of, v);
        }
        int was = what == 2 ? now.hour : now.admitted;
        if (what == 2) {
            now.hour = v;
        } else {
            now.admitted = v;
        }
        return was;
    }

    public int bench(int what, int of) {
        switch (what) {
            case 0: return isOfCourt(0, of) ? now.weights[of] : NONE_SUCH;
            case 1: return isOfCourt(1, of) ? now.keen[of] : NONE_SUCH;
            case 2: return now.admitted;
            case 3: return now.verdict();
            case 4: return now.hour % GENTLEMEN;
            default: return NONE_SUCH;
        }
    }

    private static boolean isOfCourt(int what, int of) {
        switch (what) {
            case 0: return isBelow(of, FACTS);
            case 1: return isBelow(of, GENTLEMEN);
            default: return what == 2 || what == 3;
        }
    }

    private static int mostOfCourt(int what) {
        switch (what) {
            case 2: return LAST_HOUR;
            case 3: return ALL_FACTS;
            default: return MOST;
        }
    }

    public int feed(int n, int a, int b, int c, int d, int e) {
        if (n < 1 || n > 5 || !isByte(a) || !isByte(b) || !isByte(c) || !isByte(d) || !isByte(e)) {
            return BAD;
        }
        if (tape.size + n > TAPE) {
            return FULL;
        }
        tape.append(a);
        for (int i = 1; i < n; i++) {
            tape.append(i == 1 ? b : i == 2 ? c : i == 3 ? d : e);
        }
        return tape.size;
    }

    private static boolean isByte(int v) {
        return isBelow(v, 256);
    }

    public int text() {
        if (textCount >= TEXTS) {
            return FULL;
        }
        int fault = tape.fault();
        tape.size = 0;
        if (fault != NONE) {
            return -100 - fault;
        }
        int number = textCount;
        texts[number] = tape.lawRead(number);
        textCount++;
        return number;
    }

    public int force(int t) {
        if (!isBelow(t, textCount)) {
            return BAD;
        }
        int was = now.law.number;
        now.law = texts[t];
        return was;
    }

    public int asks(int part, int p) {
        if (!isBelow(part, 3) || !now.hasWitness(p)) {
            return NONE_ASKED;
        }
        return now.law.says(part, now, p);
    }

    public int witness(int kindMore, int known, int faces) {
        if (!isBelow(kindMore, KINDS * 10) || !isBelow(known, ALL_FACTS + 1) || !isBelow(faces, MOST + 1)) {
            return BAD;
        }
        return now.witnesses >= WITNESSES ? FULL : now.welcome(kindMore, known, faces);
    }

    public int put(int p, int what, int v) {
        if (!now.hasWitness(p)) {
            return NO_WITNESS;
        }
        if (!isBelow(what, 2) || !isBelow(v, what == 0 ? ALL_FACTS + 1 : MOST + 1)) {
            return WRONG_WHAT;
        }
        return replaced(what == 0 ? now.known : now.face, p, v);
    }

    public int told(int p, int what) {
        if (!now.hasWitness(p)) {
            return NO_WITNESS;
        }
        switch (what) {
            case 0: return now.known[p];
            case 1: return now.face[p];
            case 2: return now.vain[p];
            case 3: return now.kind[p];
            case 4: return now.more[p];
            case 5: return now.drops(p);
            case 6: return now.waits(p);
            case 7: return now.linensOf(p);
            case 8: return now.stooping(p);
            default: return WRONG_WHAT;
        }
    }

    public int regard(int p, int man, int what) {
        if (!now.hasWitness(p) || !isBelow(man, GENTLEMEN)) {
            return NO_WITNESS;
        }
        switch (what) {
            case 0: return now.looks(p, man);
            case 1: return now.stoops(man, p) ? 1 : 0;
            default: return WRONG_WHAT;
        }
    }

    public int linen(int h, int what) {
        if (!now.lies(h)) {
            return NO_LINEN;
        }
        switch (what) {
            case 0: return now.owner[h];
            case 1: return now.fact[h];
            case 2: return now.left[h];
            default: return WRONG_WHAT;
        }
    }

    // ---- letting fall, hours

    public int drop(int p) {
        if (!now.hasWitness(p)) {
            return NO_WITNESS;
        }
        if (now.known[p] == 0) {
            return NONE;
        }
        return now.canLetFall(p) ? now.letFall(p) : FULL;
    }

    public int hour() {
        return now.hour >= LAST_HOUR ? STATE : now.passHours(1);
    }

    public int burn(int h) {
        if (!now.lies(h)) {
            return NO_LINEN;
        }
        now.owner[h] = NONE;
        return now.fact[h];
    }

    public int run(int n, int what) {
        boolean ofWitness = what >= 10 && now.hasWitness(what - 10);
        if (!isBelow(n, LONGEST_RUN + 1) || !isBelow(what, 3) && !ofWitness) {
            return NONE_SUCH;
        }
        thought.become(now);
        thought.passHours(n);
        switch (what) {
            case 0: return thought.admitted;
            case 1: return thought.verdict();
            case 2: return thought.lying();
            default: return ofWitness ? thought.vain[what - 10] : NONE_SUCH;
        }
    }

    public int when(int what) {
        if (what != NONE && !isBelow(what, FACTS)) {
            return WRONG_WHAT;
        }
        thought.become(now);
        for (int n = 0; n <= LONGEST_WAY; n++) {
            if (what == NONE ? thought.lying() == 0 : thought.isAdmitted(what)) {
                return n;
            }
            thought.passHours(1);
        }
        return NONE;
    }

    public int fate(int h, int what) {
        if (!now.lies(h)) {
            return NO_LINEN;
        }
        if (!isBelow(what, 2)) {
            return WRONG_WHAT;
        }
        thought.become(now);
        int hours = 0;
        while (hours < MOST && thought.lies(h)) {
            thought.passHours(1);
            hours++;
        }
        if (what == 1) {
            return hours;
        }
        // One that has lain its time out keeps a 0, one that is picked up does not.
        return thought.left[h] == 0 ? NONE : (thought.hour - 1) % GENTLEMEN;
    }

    // ---- what is best

    public int advise(int n, int what) {
        if (!isBelow(n, LONGEST_RUN + 1) || !isBelow(what, 2)) {
            return NONE_SUCH;
        }
        thought.become(now);
        thought.passHours(n);
        int best = NONE;
        int most = thought.verdict();
        for (int p = 0; p < now.witnesses; p++) {
            if (now.canLetFall(p)) {
                thought.become(now);
                thought.letFall(p);
                thought.passHours(n);
                int verdict = thought.verdict();
                best = verdict > most ? p : best;
                most = Math.max(verdict, most);
            }
        }
        return what == 0 ? best : most;
    }

    public int turn(int what) {
        if (!isBelow(what, 2)) {
            return BAD;
        }
        boolean guilty = now.verdict() > 0;
        int best = NONE;
        int fewest = NONE;
        for (int set = 1; set <= ALL_FACTS; set++) {
            int size = Integer.bitCount(set);
            boolean better = (set & now.admitted) == 0 && (fewest == NONE || size < fewest);
            if (better && now.weightOf(now.admitted | set) > 0 != guilty) {
                best = set;
                fewest = size;
            }
        }
        return what == 0 ? best : fewest;
    }

    public int gallant(int n, int what) {
        if (!isBelow(n, LONGEST_RUN + 1) || !isBelow(what, 2)) {
            return BAD;
        }
        thought.become(now);
        thought.passHours(n);
        int best = NONE;
        int most = Integer.bitCount(thought.admitted);
        for (int man = 0; man < GENTLEMEN; man++) {
            thought.become(now);
            thought.keen[man] = MOST;
            thought.passHours(n);
            int facts = Integer.bitCount(thought.admitted);
            best = facts > most ? man : best;
            most = Math.max(facts, most);
        }
        return what == 0 ? best : most;
    }

    public int cast(int n, int what) {
        if (!isBelow(n, LONGEST_ROW + 1) || !isBelow(what, 2)) {
            return NONE_SUCH;
        }
        bestRow = 0;
        bestVerdict = Integer.MIN_VALUE;
        tryRow(0, n, 0, 0);
        return what == 0 ? bestRow : bestVerdict;
    }

    /** Weighs the row whose witnesses are used and whose digits are told, then all that go on from it. */
    private void tryRow(int length, int longest, int used, int digits) {
        thought.become(behind[length]);
        thought.passHours(HOURS_BEHIND_ROW);
        int verdict = thought.verdict();
        if (verdict > bestVerdict) {
            bestVerdict = verdict;
            bestRow = digits;
        }
        if (length < longest) {
            tryLongerRows(length, longest, used, digits);
        }
    }

    private void tryLongerRows(int length, int longest, int used, int digits) {
        if (length + 1 >= behind.length) {
            return;
        }
        Assize here = behind[length];
        Assize next = behind[length + 1];
        for (int p = 0; p < here.witnesses; p++) {
            if ((used >> p & 1) == 0 && here.canLetFall(p)) {
                next.become(here);
                next.letFall(p);
                next.passHours(1);
                tryRow(length + 1, longest, used | 1 << p, digits * 10 + p + 1);
            }
        }
    }

    public long mean(int part) {
        int facts = Integer.bitCount(now.admitted);
        return facts == 0 ? NO : lowest(now.verdict(), facts, part);
    }

    /** Part 0 above, 1 below the line of a fraction in lowest terms; NO of another part. */
    private static long lowest(int above, int below, int part) {
        int shared = commonDivisor(Math.abs(above), below);
        if (!isBelow(part, 2) || shared <= 0) {
            return NO;
        }
        return (part == 0 ? above : below) / shared;
    }

    private static int commonDivisor(int a, int b) {
        int big = a;
        int small = b;
        for (int i = 0; i < 64 && small != 0; i++) {
            int rest = big % small;
            big = small;
            small = rest;
        }
        return big;
    }

    // ---- told hours

    public int judge(int s) {
        int refusal = refusalOfTale(s);
        if (refusal != 0) {
            return refusal;
        }
        thought.become(now);
        return firstOtherwise(s);
    }

    public int kinds(int s, int p, int sort) {
        int refusal = refusalOfFitting(s, now.hasWitness(p), sort);
        if (refusal != 0) {
            return refusal;
        }
        int fit = 0;
        for (int v = 0; v < (sort == 0 ? KINDS : MORES); v++) {
            thought.become(now);
            (sort == 0 ? thought.kind : thought.more)[p] = v;
            fit |= firstOtherwise(s) == NONE ? 1 << v : 0;
        }
        return fit;
    }

    public int faces(int s, int p, int what) {
        int refusal = refusalOfFitting(s, now.hasWitness(p), what);
        return refusal != 0 ? refusal : fitting(s, thought.face, p, what);
    }

    public int keens(int s, int man, int what) {
        int refusal = refusalOfFitting(s, isBelow(man, GENTLEMEN), what);
        return refusal != 0 ? refusal : fitting(s, thought.keen, man, what);
    }

    public int burnt(int s) {
        int refusal = refusalOfTale(s);
        if (refusal != 0) {
            return refusal;
        }
        int fit = 0;
        for (int h = 0; h < LINENS; h++) {
            if (now.lies(h)) {
                thought.become(now);
                thought.owner[h] = NONE;
                fit |= firstOtherwise(s) == NONE ? 1 << h : 0;
            }
        }
        return fit;
    }

    public int laws(int s) {
        int refusal = refusalOfTale(s);
        if (refusal != 0) {
            return refusal;
        }
        int fit = 0;
        for (int t = 0; t < textCount; t++) {
            thought.become(now);
            thought.law = texts[t];
            fit |= firstOtherwise(s) == NONE ? 1 << t : 0;
        }
        return fit;
    }

    public int film(int s, int n) {
        if (!isBelow(s, SHEETS)) {
            return BAD;
        }
        if (!isBelow(n, LONGEST_TALE + 1)) {
            return WRONG_WHAT;
        }
        Sheet tale = sheets[s];
        tale.begin(0, n);
        thought.become(now);
        for (int i = 0; i < n; i++) {
            thought.passHours(1);
            tale.become(i, Integer.bitCount(thought.admitted));
        }
        return n;
    }

    /** Why a sheet can't be taken for told hours; 0 if it can. */
    private int refusalOfTale(int s) {
        if (!isBelow(s, SHEETS)) {
            return BAD;
        }
        if (sheets[s].isMissing()) {
            return NOTHING_THERE;
        }
        return sheets[s].size > LONGEST_TALE ? BAD : 0;
    }

    /** As of a tale; also why nothing can be fitted to it, if there is no such one or what is not as told. */
    private int refusalOfFitting(int s, boolean hasSuch, int what) {
        int refusal = refusalOfTale(s);
        if (refusal != 0) {
            return refusal;
        }
        if (!hasSuch) {
            return NO_WITNESS;
        }
        return isBelow(what, 2) ? 0 : WRONG_WHAT;
    }

    /** Lets the thought hours pass that a sheet tells: the first number that is otherwise. */
    private int firstOtherwise(int s) {
        Sheet tale = sheets[s];
        for (int i = 0; i < tale.size; i++) {
            thought.passHours(1);
            if (Integer.bitCount(thought.admitted) != tale.cells[i]) {
                return i;
            }
        }
        return NONE;
    }

    /** Of 0 .. 99 at place i of a row of the thought: how many fit a sheet (what 0), or the least. */
    private int fitting(int s, int[] row, int i, int what) {
        int many = 0;
        int least = NONE;
        for (int v = 0; v <= MOST; v++) {
            thought.become(now);
            row[i] = v;
            if (firstOtherwise(s) == NONE) {
                many++;
                least = least == NONE ? v : least;
            }
        }
        return what == 0 ? many : least;
    }

    // ---- assizes by lots

    public int drawn(int seed, int what) {
        if (!isBelow(seed, LAST_SEED + 1) || !isBelow(what, 2)) {
            return NONE_SUCH;
        }
        holdAssizes(seed);
        return what == 0 ? thought.verdict() : thought.admitted;
    }

    public long odds(int seed, int seeds, int least, int part) {
        boolean such = isBelow(seed, LAST_SEED + 1) && seeds >= 1 && seeds <= MOST_SEEDS;
        if (!such || least < -LAST_HOUR || least > LAST_HOUR) {
            return NO;
        }
        int many = 0;
        for (int i = 0; i < seeds; i++) {
            holdAssizes(seed + i);
            many += thought.verdict() >= least ? 1 : 0;
        }
        return lowest(many, seeds, part);
    }

    private void holdAssizes(int seed) {
        thought.become(now);
        long lot = seed + 1L;
        for (int i = 0; i < DRAWN_HOURS; i++) {
            lot = lot * 48271L % 2147483647L;
            int p = (int) (lot % 8);
            if (thought.hasWitness(p) && thought.canLetFall(p)) {
                thought.letFall(p);
            }
            thought.passHours(1);
        }
    }

    public int image() {
        kept.become(now);
        hasImage = true;
        return now.witnesses;
    }

    public int back() {
        if (!hasImage) {
            return STATE;
        }
        now.become(kept);
        return now.witnesses;
    }

    // ---- the host

    public int sheet(int s, int sort, int n) {
        if (!isBelow(s, SHEETS) || sort < Sheet.MISSING || sort > Sheet.INTS) {
            return BAD;
        }
        if (sort != Sheet.MISSING && n > CELLS) {
            return BAD;
        }
        if (sort != Sheet.MISSING && n < 0) {
            return BELOW_ZERO;
        }
        sheets[s].begin(sort, sort == Sheet.MISSING ? 0 : n);
        return 1;
    }

    public int cell(int s, int i, int v) {
        if (!isBelow(s, SHEETS)) {
            return BAD;
        }
        if (sheets[s].isMissing()) {
            return NOTHING_THERE;
        }
        if (!isBelow(i, sheets[s].size)) {
            return OUTSIDE;
        }
        sheets[s].become(i, v);
        return 1;
    }

    public int copy(int s, int i, int other, int j, int n) {
        if (!isBelow(s, SHEETS) || !isBelow(other, SHEETS)) {
            return BAD;
        }
        Sheet from = sheets[s];
        Sheet to = sheets[other];
        if (from.isMissing() || to.isMissing()) {
            return NOTHING_THERE;
        }
        if (from.sort != to.sort) {
            return OTHER_SORT;
        }
        if (!from.has(i, n) || !to.has(j, n)) {
            return OUTSIDE;
        }
        System.arraycopy(from.cells, i, to.cells, j, n);
        return n;
    }

    public int witnessesBy(int s, int sort, int from, int n) {
        if (!isBelow(s, SHEETS) || !isBelow(sort, Sheet.INTS + 1) || !isBelow(n, WITNESSES + 1)) {
            return BAD;
        }
        Sheet sheet = sheets[s];
        if (sheet.isMissing()) {
            return NOTHING_THERE;
        }
        if (sheet.sort != sort) {
            return OTHER_SORT;
        }
        int came = 0;
        for (int k = 0; k < n; k++) {
            int i = from + 3 * k;
            if (!sheet.has(i, 3)) {
                return OUTSIDE;
            }
            came += witness(sheet.cells[i], sheet.cells[i + 1], sheet.cells[i + 2]) >= 0 ? 1 : 0;
        }
        return came;
    }

    public int taken(int i, int kind) {
        if (!isBelow(kind, KINDS + 1)) {
            return BAD;
        }
        if (!isBelow(i, WITNESSES + LINENS)) {
            return OUTSIDE;
        }
        boolean isWitness = i < WITNESSES;
        if (isWitness ? !now.hasWitness(i) : !now.lies(i - WITNESSES)) {
            return NOTHING_THERE;
        }
        if (isWitness) {
            return Kinds.isOne(now.kind[i], kind) ? i : OTHER_SORT;
        }
        return kind == KINDS ? now.fact[i - WITNESSES] : OTHER_SORT;
    }

    // ---- small help

    private static boolean isBelow(int v, int bound) {
        return v >= 0 && v < bound;
    }

    private static int replaced(int[] row, int i, int v) {
        int was = row[i];
        row[i] = v;
        return was;
    }

    private static int bounded(int v, int least, int most) {
        return Math.max(least, Math.min(most, v));
    }

    /** What is of each KIND: as the KIND above has it, and unbounded, where nothing else is told. */
    private static final class Kinds {
        private static final int WITNESS = 0, LADY = 1, COOK = 2, WIDOW = 3, MAID = 4, GREY = 5;

        static int looksOf(int kind, int said, int more, int man) {
            switch (kind) {
                case LADY: return ladyLooks(said, more, man);
                case WIDOW: return ladyLooks(said, more, man) / (man % 2 == 0 ? 2 : 1);
                case COOK:
                case MAID: return said - 5 * more;
                case GREY: return 0;
                default: return said;
            }
        }

        private static int ladyLooks(int said, int more, int man) {
            return man == more % GENTLEMEN ? MOST : said;
        }

        static int waitsOf(int kind, int said, int more, int hour) {
            switch (kind) {
                case LADY: return said / 2;
                case WIDOW: return hour % 5 == 0 ? MOST : said / 2 + more;
                case MAID: return said * 2;
                case GREY: return 1 + more;
                default: return said;
            }
        }

        /** Which one of so many facts (1 or more), from 0 on. */
        static int dropsOf(int kind, int said, int more, int many) {
            if (many < 1) {
                return 0;
            }
            int first = Math.floorMod(said, many);
            switch (kind) {
                case COOK: return many - 1 - first;
                case MAID: return Math.max(many - 1 - first, more % many);
                default: return first;
            }
        }

        /** Whether a KIND is the wanted one, or has it above. */
        static boolean isOne(int kind, int wanted) {
            int above = kind == WIDOW ? LADY : kind == MAID ? COOK : WITNESS;
            return kind == wanted || above == wanted || wanted == WITNESS;
        }
    }

    /** How things stand, truly or in thought. */
    private static final class Assize {
        private final int[] weights = new int[FACTS];
        private final int[] keen = new int[GENTLEMEN];
        private final int[] kind = new int[WITNESSES];
        private final int[] more = new int[WITNESSES];
        private final int[] known = new int[WITNESSES];
        private final int[] face = new int[WITNESSES];
        private final int[] vain = new int[WITNESSES];
        /** Whose a handkerchief is; NONE: it isn't there. */
        private final int[] owner = new int[LINENS];
        private final int[] fact = new int[LINENS];
        private final int[] left = new int[LINENS];
        private final int[] stack;
        private int admitted;
        private int hour;
        private int witnesses;
        private Law law;

        Assize(Law first, int[] stackForTexts) {
            law = first;
            stack = stackForTexts;
            Arrays.fill(keen, 50);
            Arrays.fill(owner, NONE);
        }

        void become(Assize other) {
            System.arraycopy(other.weights, 0, weights, 0, FACTS);
            System.arraycopy(other.keen, 0, keen, 0, GENTLEMEN);
            System.arraycopy(other.kind, 0, kind, 0, WITNESSES);
            System.arraycopy(other.more, 0, more, 0, WITNESSES);
            System.arraycopy(other.known, 0, known, 0, WITNESSES);
            System.arraycopy(other.face, 0, face, 0, WITNESSES);
            System.arraycopy(other.vain, 0, vain, 0, WITNESSES);
            System.arraycopy(other.owner, 0, owner, 0, LINENS);
            System.arraycopy(other.fact, 0, fact, 0, LINENS);
            System.arraycopy(other.left, 0, left, 0, LINENS);
            admitted = other.admitted;
            hour = other.hour;
            witnesses = other.witnesses;
            law = other.law;
        }

        boolean hasWitness(int p) {
            return isBelow(p, witnesses);
        }

        /** There is room for her, and the numbers are as told. */
        int welcome(int kindMore, int knownFacts, int herFace) {
            int p = witnesses;
            kind[p] = kindMore / 10;
            more[p] = kindMore % 10;
            known[p] = knownFacts;
            face[p] = herFace;
            vain[p] = 0;
            witnesses++;
            return p;
        }

        boolean isAdmitted(int f) {
            return (admitted >> f & 1) == 1;
        }

        int verdict() {
            return weightOf(admitted);
        }

        int weightOf(int facts) {
            int sum = 0;
            for (int f = 0; f < FACTS; f++) {
                sum += (facts >> f & 1) == 1 ? weights[f] : 0;
            }
            return sum;
        }

        boolean lies(int h) {
            return isBelow(h, LINENS) && owner[h] != NONE;
        }

        int lying() {
            int many = 0;
            for (int h = 0; h < LINENS; h++) {
                many += owner[h] != NONE ? 1 : 0;
            }
            return many;
        }

        int linensOf(int p) {
            int bits = 0;
            for (int h = 0; h < LINENS; h++) {
                bits |= owner[h] == p ? 1 << h : 0;
            }
            return bits;
        }

        int looks(int p, int man) {
            int said = law.says(Law.LOOKS, this, p);
            return bounded(Kinds.looksOf(kind[p], said, more[p], man), 0, MOST);
        }

        int waits(int p) {
            int said = law.says(Law.WAITS, this, p);
            return bounded(Kinds.waitsOf(kind[p], said, more[p], hour), 1, MOST);
        }

        /** The FACT she drops; NONE if she knows none. */
        int drops(int p) {
            int many = Integer.bitCount(known[p]);
            if (many == 0) {
                return NONE;
            }
            int ahead = Kinds.dropsOf(kind[p], law.says(Law.DROPS, this, p), more[p], many);
            for (int f = 0; f < FACTS; f++) {
                if ((known[p] >> f & 1) == 1) {
                    if (ahead == 0) {
                        return f;
                    }
                    ahead--;
                }
            }
            return NONE;
        }

        boolean stoops(int man, int p) {
            return keen[man] + looks(p, man) >= ENOUGH;
        }

        int stooping(int p) {
            int bits = 0;
            for (int man = 0; man < GENTLEMEN; man++) {
                bits |= stoops(man, p) ? 1 << man : 0;
            }
            return bits;
        }

        boolean canLetFall(int p) {
            return known[p] != 0 && lying() < LINENS;
        }

        /** She lets one fall, if she can: which handkerchief. */
        int letFall(int p) {
            int which = drops(p);
            int hours = waits(p);
            for (int h = 0; h < LINENS && which != NONE; h++) {
                if (owner[h] == NONE) {
                    owner[h] = p;
                    fact[h] = which;
                    left[h] = hours;
                    return h;
                }
            }
            return NONE;
        }

        /** Lets n hours pass: the facts (bits) of all that are picked up in them. */
        int passHours(int n) {
            int picked = 0;
            for (int i = 0; i < n; i++) {
                int man = hour % GENTLEMEN;
                for (int h = 0; h < LINENS; h++) {
                    int p = owner[h];
                    // As stoops() has it, written out: calls may go eight deep, and this is the deepest.
                    if (p != NONE && keen[man] + looks(p, man) >= ENOUGH) {
                        picked |= 1 << fact[h];
                        admitted |= 1 << fact[h];
                        owner[h] = NONE;
                    } else if (p != NONE) {
                        fade(h, p);
                    }
                }
                hour++;
            }
            return picked;
        }

        private void fade(int h, int p) {
            left[h]--;
            if (left[h] == 0) {
                owner[h] = NONE;
                vain[p] = Math.min(MOST, vain[p] + 1);
            }
        }

        int named(int name, int p) {
            switch (name) {
                case Law.FACE: return face[p];
                case Law.KNOWN: return Integer.bitCount(known[p]);
                case Law.HOUR: return hour;
                case Law.LYING: return lying();
                case Law.ADMITTED: return Integer.bitCount(admitted);
                default: return more[p];
            }
        }
    }

    /** A TEXT that was read: of each part the operands and, behind theirs, the signs; 0 and more are numbers. */
    private static final class Law {
        private static final int LOOKS = 0, WAITS = 1, DROPS = 2;
        private static final int FACE = -1, KNOWN = -2, HOUR = -3, LYING = -4, ADMITTED = -5, LAST_NAME = -6;
        private static final int NEGATE = -7, NOT = -8;
        private static final int ADD = -9, SUBTRACT = -10, MULTIPLY = -11, LESS = -12, SAME = -13, AND = -14, OR = -15;

        private final int number;
        private final int[] code;
        private final int waitsAt;
        private final int dropsAt;

        Law(int itsNumber, int[] itsCode, int itsWaits, int itsDrops) {
            number = itsNumber;
            code = itsCode;
            waitsAt = itsWaits;
            dropsAt = itsDrops;
        }

        int says(int part, Assize assize, int p) {
            int[] stack = assize.stack;
            int from = part == LOOKS ? 0 : part == WAITS ? waitsAt : dropsAt;
            int to = part == LOOKS ? waitsAt : part == WAITS ? dropsAt : code.length;
            int size = 0;
            for (int i = from; i < to && size < stack.length; i++) {
                int op = code[i];
                if (op >= LAST_NAME) {
                    stack[size] = op >= 0 ? op : assize.named(op, p);
                    size++;
                } else if (op >= NOT && size >= 1) {
                    stack[size - 1] = op == NEGATE ? -stack[size - 1] : truth(stack[size - 1] == 0);
                } else if (size >= 2) {
                    stack[size - 2] = joined(op, stack[size - 2], stack[size - 1]);
                    size--;
                }
            }
            return bounded(size > 0 ? stack[0] : 0, part == DROPS ? -MOST : 0, MOST);
        }

        private static int joined(int op, int a, int b) {
            switch (op) {
                case ADD: return a + b;
                case SUBTRACT: return a - b;
                case MULTIPLY: return a * b;
                case LESS: return truth(a < b);
                case SAME: return truth(a == b);
                case AND: return truth(a != 0 && b != 0);
                default: return truth(a != 0 || b != 0);
            }
        }

        private static int truth(boolean is) {
            return is ? 1 : 0;
        }
    }

    /** The bytes of THE TAPE, and how a TEXT is read from them, token by token. */
    private static final class Tape {
        private static final String WORDS = "looks waits drops and or not face known hour lying admitted more ";
        private static final String SIGNS = "();+-*<=";
        /** A token that is a sign is told by its byte, all others by numbers below any sign's: keys as in WORDS. */
        private static final int END = 0, WRONG = 1, NUMBER = 2, NAME = 3;
        private static final int LOOKS = 4, AND = 7, OR = 8, NOT = 9;
        private static final int PARTS = 3, KEYS = 6, LONGEST_NUMBER = 4, DEEPEST = 5;

        private final int[] bytes = new int[TAPE];
        private final int[] code = new int[TAPE];
        private final int[] starts = new int[PARTS];
        private int size;
        private int at;
        private int token;
        private int place;
        private int value;
        private int used;

        void append(int b) {
            if (size < bytes.length) {
                bytes[size] = b;
                size++;
            }
        }

        /** Reads all: the place of the FAULT; NONE if it is a TEXT, which lawRead() answers then. */
        int fault() {
            at = 0;
            used = 0;
            advance();
            boolean fine = true;
            for (int part = 0; part < PARTS && fine; part++) {
                starts[part] = used;
                fine = isTaken(LOOKS + part) && isEither(0) && isTaken(';');
            }
            return fine && token == END ? NONE : place;
        }

        Law lawRead(int number) {
            return new Law(number, Arrays.copyOf(code, used), starts[1], starts[2]);
        }

        private boolean isTaken(int wanted) {
            if (token != wanted) {
                return false;
            }
            advance();
            return true;
        }

        private boolean isEither(int open) {
            boolean fine = isBoth(open);
            for (int i = 0; i < TAPE && fine && token == OR; i++) {
                advance();
                fine = isBoth(open) && isNoted(Law.OR, 1);
            }
            return fine;
        }

        private boolean isBoth(int open) {
            boolean fine = isNot(open);
            for (int i = 0; i < TAPE && fine && token == AND; i++) {
                advance();
                fine = isNot(open) && isNoted(Law.AND, 1);
            }
            return fine;
        }

        private boolean isNot(int open) {
            int inside = open;
            while (inside < DEEPEST && token == NOT) {
                advance();
                inside++;
            }
            return isComparison(inside) && isNoted(Law.NOT, inside - open);
        }

        private boolean isComparison(int open) {
            boolean fine = isSum(open);
            if (fine && (token == '<' || token == '=')) {
                int op = token == '<' ? Law.LESS : Law.SAME;
                advance();
                fine = isSum(open) && isNoted(op, 1);
            }
            return fine;
        }

        private boolean isSum(int open) {
            boolean fine = isTerm(open);
            for (int i = 0; i < TAPE && fine && (token == '+' || token == '-'); i++) {
                int op = token == '+' ? Law.ADD : Law.SUBTRACT;
                advance();
                fine = isTerm(open) && isNoted(op, 1);
            }
            return fine;
        }

        private boolean isTerm(int open) {
            boolean fine = isOne(open);
            for (int i = 0; i < TAPE && fine && token == '*'; i++) {
                advance();
                fine = isOne(open) && isNoted(Law.MULTIPLY, 1);
            }
            return fine;
        }

        private boolean isOne(int open) {
            int inside = open;
            while (inside < DEEPEST && token == '-') {
                advance();
                inside++;
            }
            return isUnsigned(inside) && isNoted(Law.NEGATE, inside - open);
        }

        private boolean isUnsigned(int open) {
            switch (token) {
                case NUMBER:
                case NAME: return isNoted(value, 1) && isTaken(token);
                case '(': return open < DEEPEST && isTaken('(') && isEither(open + 1) && isTaken(')');
                default: return false;
            }
        }

        private boolean isNoted(int op, int times) {
            for (int i = 0; i < times; i++) {
                if (used >= code.length) {
                    return false;
                }
                code[used] = op;
                used++;
            }
            return true;
        }

        private void advance() {
            while (at < size && (bytes[at] == ' ' || bytes[at] == '\n')) {
                at++;
            }
            place = at;
            if (at >= size) {
                token = END;
            } else if (isLetter(bytes[at])) {
                readWord();
            } else if (isDigit(bytes[at])) {
                readNumber();
            } else {
                token = SIGNS.indexOf((char) bytes[at]) >= 0 ? bytes[at] : WRONG;
                at++;
            }
        }

        private static boolean isLetter(int b) {
            return b >= 'a' && b <= 'z';
        }

        private static boolean isDigit(int b) {
            return b >= '0' && b <= '9';
        }

        private void readWord() {
            while (at < size && isLetter(bytes[at])) {
                at++;
            }
            int word = wordNumber(place, at - place);
            if (word == NONE) {
                token = WRONG;
            } else if (word < KEYS) {
                token = LOOKS + word;
            } else {
                token = NAME;
                value = Law.FACE - (word - KEYS);
            }
        }

        /** Which one of WORDS stands at a place, of so many letters; NONE if none does. */
        private int wordNumber(int from, int letters) {
            int word = 0;
            int alike = 0;
            int length = 0;
            for (int i = 0; i < WORDS.length(); i++) {
                char c = WORDS.charAt(i);
                if (c == ' ') {
                    if (alike == letters && length == letters) {
                        return word;
                    }
                    word++;
                    alike = 0;
                    length = 0;
                } else {
                    alike += length < letters && bytes[from + length] == c ? 1 : 0;
                    length++;
                }
            }
            return NONE;
        }

        private void readNumber() {
            int digits = 0;
            value = 0;
            while (at < size && isDigit(bytes[at])) {
                value = digits < LONGEST_NUMBER ? value * 10 + bytes[at] - '0' : value;
                digits++;
                at++;
            }
            token = digits > LONGEST_NUMBER ? WRONG : NUMBER;
        }
    }

    /** A row of numbers of a sort, or a missing one. */
    private static final class Sheet {
        private static final int MISSING = -1, BYTES = 0, SHORTS = 1, INTS = 2;

        private final int[] cells = new int[CELLS];
        private int sort = MISSING;
        private int size;

        boolean isMissing() {
            return sort == MISSING;
        }

        /** Becomes a row of so many, 0 .. 40, all 0. */
        void begin(int itsSort, int itsSize) {
            sort = itsSort;
            size = itsSize;
            Arrays.fill(cells, 0);
        }

        void become(int i, int v) {
            cells[i] = sort == BYTES ? (byte) v : sort == SHORTS ? (short) v : v;
        }

        /** Whether all n places from i on are inside. */
        boolean has(int i, int n) {
            return i >= 0 && n >= 0 && i <= size - n;
        }
    }
}
