import java.util.ArrayList;
import java.util.List;
import java.util.function.IntPredicate;
import java.util.function.ToIntFunction;

/**
 * The document once more, written to be compared with the class: it copies whole worlds, reads texts into trees and
 * asks its KINDS by inheritance. Its public methods bear the names and answer the calls of the class.
 */
public final class Model {
    private static final long NO = -4611686018427387904L;

    /** What an expression may ask about: a witness in a world. */
    private record Asked(World world, Lady0 her) { }

    private static final class Fault extends RuntimeException {
        private static final long serialVersionUID = 1L;
        final int place;

        Fault(int itsPlace) {
            place = itsPlace;
        }
    }

    // ---- witnesses, by kinds

    /** Any witness; as such a plain one, of kind 0. */
    private static class Lady0 {
        int kind;
        int more;
        int known;
        int face;
        int vain;

        int rawLooks(int said, int man) {
            return said;
        }

        int rawWaits(int said, int hour) {
            return said;
        }

        int rawDrops(int said, int n) {
            return ((said % n) + n) % n;
        }

        static Lady0 of(int kind, int more, int known, int face, int vain) {
            Lady0 w = switch (kind) {
                case 1 -> new Lady1();
                case 2 -> new Cook2();
                case 3 -> new Widow3();
                case 4 -> new Maid4();
                case 5 -> new Grey5();
                default -> new Lady0();
            };
            w.kind = kind;
            w.more = more;
            w.known = known;
            w.face = face;
            w.vain = vain;
            return w;
        }

        Lady0 twin() {
            return of(kind, more, known, face, vain);
        }
    }

    private static class Lady1 extends Lady0 {
        @Override int rawLooks(int said, int man) {
            return more % 6 == man ? 99 : super.rawLooks(said, man);
        }

        @Override int rawWaits(int said, int hour) {
            return super.rawWaits(said, hour) / 2;
        }
    }

    private static class Cook2 extends Lady0 {
        @Override int rawLooks(int said, int man) {
            return super.rawLooks(said, man) - 5 * more;
        }

        @Override int rawDrops(int said, int n) {
            return n - 1 - super.rawDrops(said, n);
        }
    }

    private static final class Widow3 extends Lady1 {
        @Override int rawLooks(int said, int man) {
            int l = super.rawLooks(said, man);
            return man % 2 == 0 ? l / 2 : l;
        }

        @Override int rawWaits(int said, int hour) {
            return hour % 5 == 0 ? 99 : super.rawWaits(said, hour) + more;
        }
    }

    private static final class Maid4 extends Cook2 {
        @Override int rawWaits(int said, int hour) {
            return 2 * super.rawWaits(said, hour);
        }

        @Override int rawDrops(int said, int n) {
            return Math.max(super.rawDrops(said, n), more % n);
        }
    }

    private static final class Grey5 extends Lady0 {
        @Override int rawLooks(int said, int man) {
            return 0;
        }

        @Override int rawWaits(int said, int hour) {
            return 1 + more;
        }
    }

    private record Cloth(int whose, int fact, int left) { }

    // ---- a world

    private static final class World {
        int[] weights = new int[10];
        int[] keen = {50, 50, 50, 50, 50, 50};
        int admitted;
        int hour;
        List<Lady0> ladies = new ArrayList<>();
        Cloth[] cloths = new Cloth[8];
        int lawNumber;
        List<ToIntFunction<Asked>> law;
        List<int[]> picks = new ArrayList<>();

        World twin() {
            World w = new World();
            w.weights = weights.clone();
            w.keen = keen.clone();
            w.admitted = admitted;
            w.hour = hour;
            for (Lady0 l : ladies) {
                w.ladies.add(l.twin());
            }
            w.cloths = cloths.clone();
            w.lawNumber = lawNumber;
            w.law = law;
            return w;
        }

        boolean has(int p) {
            return p >= 0 && p < ladies.size();
        }

        int lying() {
            int n = 0;
            for (Cloth c : cloths) {
                if (c != null) {
                    n++;
                }
            }
            return n;
        }

        int says(int part, int p) {
            int v = law.get(part).applyAsInt(new Asked(this, ladies.get(p)));
            return clamp(v, part == 2 ? -99 : 0, 99);
        }

        int looks(int p, int man) {
            return clamp(ladies.get(p).rawLooks(says(0, p), man), 0, 99);
        }

        boolean stoops(int man, int p) {
            return keen[man] + looks(p, man) >= 100;
        }

        int waits(int p) {
            return clamp(ladies.get(p).rawWaits(says(1, p), hour), 1, 99);
        }

        int drops(int p) {
            List<Integer> facts = new ArrayList<>();
            for (int f = 0; f < 10; f++) {
                if ((ladies.get(p).known & (1 << f)) != 0) {
                    facts.add(f);
                }
            }
            return facts.isEmpty() ? -1 : facts.get(ladies.get(p).rawDrops(says(2, p), facts.size()));
        }

        boolean can(int p) {
            return has(p) && ladies.get(p).known != 0 && lying() < 8;
        }

        int letFall(int p) {
            Cloth c = new Cloth(p, drops(p), waits(p));
            for (int h = 0; h < 8; h++) {
                if (cloths[h] == null) {
                    cloths[h] = c;
                    return h;
                }
            }
            throw new IllegalStateException();
        }

        World pass() {
            picks.clear();
            for (int h = 0; h < 8; h++) {
                Cloth c = cloths[h];
                if (c == null) {
                    continue;
                }
                if (stoops(hour % 6, c.whose)) {
                    admitted |= 1 << c.fact;
                    picks.add(new int[] {h, c.fact, hour % 6});
                    cloths[h] = null;
                } else if (c.left == 1) {
                    cloths[h] = null;
                    Lady0 l = ladies.get(c.whose);
                    l.vain += l.vain < 99 ? 1 : 0;
                } else {
                    cloths[h] = new Cloth(c.whose, c.fact, c.left - 1);
                }
            }
            hour++;
            return this;
        }

        World pass(int n) {
            for (int i = 0; i < n; i++) {
                pass();
            }
            return this;
        }

        int verdict() {
            return verdictOf(admitted);
        }

        int verdictOf(int facts) {
            int v = 0;
            for (int f = 0; f < 10; f++) {
                v += weights[f] * (facts >> f & 1);
            }
            return v;
        }

        int facts() {
            return Integer.bitCount(admitted);
        }
    }

    private static int clamp(int v, int lo, int hi) {
        return v < lo ? lo : v > hi ? hi : v;
    }

    // ---- texts

    private record Token(String word, int place) { }

    private static final class Text {
        static final List<String> NAMES = List.of("face", "known", "hour", "lying", "admitted", "more");
        static final List<String> KEYS = List.of("looks", "waits", "drops", "and", "or", "not");
        final String s;
        int at;
        int open;
        Token next;

        Text(String text) {
            s = text;
            go();
        }

        /** A word of one letter '?' is a token that can't stand anywhere, "" is the end. */
        void go() {
            while (at < s.length() && (s.charAt(at) == ' ' || s.charAt(at) == '\n')) {
                at++;
            }
            int from = at;
            if (at == s.length()) {
                next = new Token("", from);
                return;
            }
            char c = s.charAt(at);
            if (c >= 'a' && c <= 'z') {
                while (at < s.length() && s.charAt(at) >= 'a' && s.charAt(at) <= 'z') {
                    at++;
                }
                String w = s.substring(from, at);
                next = new Token(NAMES.contains(w) || KEYS.contains(w) ? w : "?", from);
            } else if (c >= '0' && c <= '9') {
                while (at < s.length() && s.charAt(at) >= '0' && s.charAt(at) <= '9') {
                    at++;
                }
                next = new Token(at - from > 4 ? "?" : s.substring(from, at), from);
            } else {
                at++;
                next = new Token("();+-*<=".indexOf(c) >= 0 ? String.valueOf(c) : "?", from);
            }
        }

        boolean is(String w) {
            return next.word.equals(w);
        }

        void must(String w) {
            if (!is(w)) {
                throw new Fault(next.place);
            }
            go();
        }

        void opens() {
            if (open == 5) {
                throw new Fault(next.place);
            }
            open++;
            go();
        }

        List<ToIntFunction<Asked>> all() {
            List<ToIntFunction<Asked>> parts = new ArrayList<>();
            for (String key : List.of("looks", "waits", "drops")) {
                must(key);
                parts.add(e());
                must(";");
            }
            if (!is("")) {
                throw new Fault(next.place);
            }
            return parts;
        }

        ToIntFunction<Asked> e() {
            ToIntFunction<Asked> left = and();
            while (is("or")) {
                go();
                ToIntFunction<Asked> a = left;
                ToIntFunction<Asked> b = and();
                left = w -> a.applyAsInt(w) != 0 || b.applyAsInt(w) != 0 ? 1 : 0;
            }
            return left;
        }

        ToIntFunction<Asked> and() {
            ToIntFunction<Asked> left = not();
            while (is("and")) {
                go();
                ToIntFunction<Asked> a = left;
                ToIntFunction<Asked> b = not();
                left = w -> a.applyAsInt(w) != 0 && b.applyAsInt(w) != 0 ? 1 : 0;
            }
            return left;
        }

        ToIntFunction<Asked> not() {
            if (is("not")) {
                opens();
                ToIntFunction<Asked> a = not();
                open--;
                return w -> a.applyAsInt(w) != 0 ? 0 : 1;
            }
            ToIntFunction<Asked> a = sum();
            if (is("<")) {
                go();
                ToIntFunction<Asked> b = sum();
                return w -> a.applyAsInt(w) < b.applyAsInt(w) ? 1 : 0;
            }
            if (is("=")) {
                go();
                ToIntFunction<Asked> b = sum();
                return w -> a.applyAsInt(w) == b.applyAsInt(w) ? 1 : 0;
            }
            return a;
        }

        ToIntFunction<Asked> sum() {
            ToIntFunction<Asked> left = term();
            while (is("+") || is("-")) {
                int sign = is("+") ? 1 : -1;
                go();
                ToIntFunction<Asked> a = left;
                ToIntFunction<Asked> b = term();
                left = w -> a.applyAsInt(w) + sign * b.applyAsInt(w);
            }
            return left;
        }

        ToIntFunction<Asked> term() {
            ToIntFunction<Asked> left = one();
            while (is("*")) {
                go();
                ToIntFunction<Asked> a = left;
                ToIntFunction<Asked> b = one();
                left = w -> a.applyAsInt(w) * b.applyAsInt(w);
            }
            return left;
        }

        ToIntFunction<Asked> one() {
            if (is("-")) {
                opens();
                ToIntFunction<Asked> a = one();
                open--;
                return w -> -a.applyAsInt(w);
            }
            if (is("(")) {
                opens();
                ToIntFunction<Asked> a = e();
                must(")");
                open--;
                return a;
            }
            String word = next.word;
            if (NAMES.contains(word)) {
                go();
                return w -> named(w, word);
            }
            if (word.isEmpty() || !Character.isDigit(word.charAt(0))) {
                throw new Fault(next.place);
            }
            go();
            int v = Integer.parseInt(word);
            return w -> v;
        }

        static int named(Asked w, String name) {
            return switch (name) {
                case "face" -> w.her.face;
                case "known" -> Integer.bitCount(w.her.known);
                case "hour" -> w.world.hour;
                case "lying" -> w.world.lying();
                case "admitted" -> w.world.facts();
                default -> w.her.more;
            };
        }
    }

    // ---- the object

    private World now = new World();
    private World image;
    private final List<List<ToIntFunction<Asked>>> texts = new ArrayList<>();
    private String tape = "";
    private final long[][] rows = new long[4][];
    private final int[] sorts = {-1, -1, -1, -1};

    public Model() {
        texts.add(new Text("looks face ; waits 6 ; drops hour ;").all());
        now.law = texts.get(0);
    }

    private static boolean in(int v, int lo, int hi) {
        return v >= lo && v <= hi;
    }

    public int count(int what) {
        return switch (what) {
            case 0 -> now.ladies.size();
            case 1 -> now.hour;
            case 2 -> now.lying();
            case 3 -> texts.size();
            case 4 -> now.lawNumber;
            case 5 -> tape.length();
            default -> -2;
        };
    }

    public int court(int what, int of, int v) {
        if (!in(what, 0, 3) || what == 0 && !in(of, 0, 9) || what == 1 && !in(of, 0, 5)) {
            return -5000;
        }
        int[] lo = {-99, 0, 0, 0};
        int[] hi = {99, 99, 999, 1023};
        if (!in(v, lo[what], hi[what])) {
            return -7000;
        }
        int was;
        if (what == 0) {
            was = now.weights[of];
            now.weights[of] = v;
        } else if (what == 1) {
            was = now.keen[of];
            now.keen[of] = v;
        } else if (what == 2) {
            was = now.hour;
            now.hour = v;
        } else {
            was = now.admitted;
            now.admitted = v;
        }
        return was;
    }

    public int bench(int what, int of) {
        if (what == 0 && in(of, 0, 9)) {
            return now.weights[of];
        }
        if (what == 1 && in(of, 0, 5)) {
            return now.keen[of];
        }
        return what == 2 ? now.admitted : what == 3 ? now.verdict() : what == 4 ? now.hour % 6 : -5000;
    }

    public int feed(int n, int a, int b, int c, int d, int e) {
        int[] bytes = {a, b, c, d, e};
        for (int v : bytes) {
            if (!in(v, 0, 255)) {
                return -2;
            }
        }
        if (!in(n, 1, 5)) {
            return -2;
        }
        if (tape.length() + n > 160) {
            return -4;
        }
        for (int i = 0; i < n; i++) {
            tape += (char) bytes[i];
        }
        return tape.length();
    }

    public int text() {
        if (texts.size() == 6) {
            return -4;
        }
        String read = tape;
        tape = "";
        try {
            texts.add(new Text(read).all());
            return texts.size() - 1;
        } catch (Fault f) {
            return -100 - f.place;
        }
    }

    public int force(int t) {
        if (!in(t, 0, texts.size() - 1)) {
            return -2;
        }
        int was = now.lawNumber;
        now.lawNumber = t;
        now.law = texts.get(t);
        return was;
    }

    public int asks(int part, int p) {
        return in(part, 0, 2) && now.has(p) ? now.says(part, p) : -1000;
    }

    public int witness(int kindMore, int known, int faces) {
        if (!in(kindMore, 0, 59) || !in(known, 0, 1023) || !in(faces, 0, 99)) {
            return -2;
        }
        if (now.ladies.size() == 6) {
            return -4;
        }
        now.ladies.add(Lady0.of(kindMore / 10, kindMore % 10, known, faces, 0));
        return now.ladies.size() - 1;
    }

    public int put(int p, int what, int v) {
        if (!now.has(p)) {
            return -5;
        }
        if (!in(what, 0, 1) || !in(v, 0, what == 0 ? 1023 : 99)) {
            return -7;
        }
        Lady0 l = now.ladies.get(p);
        int was = what == 0 ? l.known : l.face;
        if (what == 0) {
            l.known = v;
        } else {
            l.face = v;
        }
        return was;
    }

    public int told(int p, int what) {
        if (!now.has(p)) {
            return -5;
        }
        Lady0 l = now.ladies.get(p);
        return switch (what) {
            case 0 -> l.known;
            case 1 -> l.face;
            case 2 -> l.vain;
            case 3 -> l.kind;
            case 4 -> l.more;
            case 5 -> now.drops(p);
            case 6 -> now.waits(p);
            case 7 -> bits(8, h -> now.cloths[h] != null && now.cloths[h].whose == p);
            case 8 -> bits(6, man -> now.stoops(man, p));
            default -> -7;
        };
    }

    private static int bits(int n, IntPredicate is) {
        int b = 0;
        for (int i = 0; i < n; i++) {
            if (is.test(i)) {
                b += 1 << i;
            }
        }
        return b;
    }

    public int regard(int p, int man, int what) {
        if (!now.has(p) || !in(man, 0, 5)) {
            return -5;
        }
        return what == 0 ? now.looks(p, man) : what == 1 ? (now.stoops(man, p) ? 1 : 0) : -7;
    }

    private Cloth cloth(int h) {
        return in(h, 0, 7) ? now.cloths[h] : null;
    }

    public int linen(int h, int what) {
        Cloth c = cloth(h);
        if (c == null) {
            return -6;
        }
        return what == 0 ? c.whose : what == 1 ? c.fact : what == 2 ? c.left : -7;
    }

    public int drop(int p) {
        if (!now.has(p)) {
            return -5;
        }
        if (now.ladies.get(p).known == 0) {
            return -1;
        }
        return now.lying() == 8 ? -4 : now.letFall(p);
    }

    public int hour() {
        if (now.hour == 999) {
            return -3;
        }
        now.pass();
        int b = 0;
        for (int[] pick : now.picks) {
            b |= 1 << pick[1];
        }
        return b;
    }

    public int burn(int h) {
        Cloth c = cloth(h);
        if (c == null) {
            return -6;
        }
        now.cloths[h] = null;
        return c.fact;
    }

    public int run(int n, int what) {
        if (!in(n, 0, 40) || !in(what, 0, 2) && !in(what, 10, 9 + now.ladies.size())) {
            return -5000;
        }
        World w = now.twin().pass(n);
        return what == 0 ? w.admitted : what == 1 ? w.verdict() : what == 2 ? w.lying() : w.ladies.get(what - 10).vain;
    }

    public int when(int what) {
        if (!in(what, -1, 9)) {
            return -7;
        }
        for (int n = 0; n <= 60; n++) {
            World w = now.twin().pass(n);
            if (what < 0 && w.lying() == 0 || what >= 0 && (w.admitted & 1 << what) != 0) {
                return n;
            }
        }
        return -1;
    }

    public int fate(int h, int what) {
        if (cloth(h) == null) {
            return -6;
        }
        if (!in(what, 0, 1)) {
            return -7;
        }
        World w = now.twin();
        for (int n = 1; ; n++) {
            w.pass();
            if (w.cloths[h] == null) {
                int who = -1;
                for (int[] pick : w.picks) {
                    who = pick[0] == h ? pick[2] : who;
                }
                return what == 0 ? who : n;
            }
        }
    }

    public int advise(int n, int what) {
        if (!in(n, 0, 40) || !in(what, 0, 1)) {
            return -5000;
        }
        int most = now.twin().pass(n).verdict();
        int who = -1;
        for (int p = 0; p < 6; p++) {
            if (now.can(p)) {
                World w = now.twin();
                w.letFall(p);
                int v = w.pass(n).verdict();
                if (v > most) {
                    most = v;
                    who = p;
                }
            }
        }
        return what == 0 ? who : most;
    }

    public int turn(int what) {
        if (!in(what, 0, 1)) {
            return -2;
        }
        boolean above = now.verdict() > 0;
        for (int size = 1; size <= 10; size++) {
            for (int set = 0; set < 1024; set++) {
                if (Integer.bitCount(set) == size && (set & now.admitted) == 0
                        && now.verdictOf(set) + now.verdict() > 0 != above) {
                    return what == 0 ? set : size;
                }
            }
        }
        return -1;
    }

    public int gallant(int n, int what) {
        if (!in(n, 0, 40) || !in(what, 0, 1)) {
            return -2;
        }
        int most = now.twin().pass(n).facts();
        int who = -1;
        for (int man = 0; man < 6; man++) {
            World w = now.twin();
            w.keen[man] = 99;
            int f = w.pass(n).facts();
            if (f > most) {
                most = f;
                who = man;
            }
        }
        return what == 0 ? who : most;
    }

    public int cast(int n, int what) {
        if (!in(n, 0, 3) || !in(what, 0, 1)) {
            return -5000;
        }
        List<int[]> found = new ArrayList<>();
        for (int a = 0; a <= 6; a++) {
            for (int b = 0; b <= 6; b++) {
                for (int c = 0; c <= 6; c++) {
                    tryRow(found, n, a, b, c);
                }
            }
        }
        int[] best = found.get(0);
        for (int[] f : found) {
            if (f[1] > best[1]) {
                best = f;
            }
        }
        return best[what];
    }

    /** Digits 0 stand for none, and so behind all others. */
    private void tryRow(List<int[]> found, int n, int a, int b, int c) {
        boolean gap = a == 0 && b != 0 || b == 0 && c != 0;
        boolean twice = a != 0 && (a == b || a == c) || b != 0 && b == c;
        int length = (a > 0 ? 1 : 0) + (b > 0 ? 1 : 0) + (c > 0 ? 1 : 0);
        if (gap || twice || length > n) {
            return;
        }
        World w = now.twin();
        int digits = 0;
        for (int d : new int[] {a, b, c}) {
            if (d > 0) {
                if (!w.can(d - 1)) {
                    return;
                }
                w.letFall(d - 1);
                w.pass();
                digits = 10 * digits + d;
            }
        }
        found.add(new int[] {digits, w.pass(12).verdict()});
    }

    private static long fraction(long above, long below, int part) {
        if (!in(part, 0, 1) || below == 0) {
            return NO;
        }
        for (long d = below; d > 1; d--) {
            if (above % d == 0 && below % d == 0) {
                return part == 0 ? above / d : below / d;
            }
        }
        return part == 0 ? above : below;
    }

    public long mean(int part) {
        return fraction(now.verdict(), now.facts(), part);
    }

    private int refusal(int s) {
        if (!in(s, 0, 3)) {
            return -2;
        }
        return sorts[s] < 0 ? -11 : rows[s].length > 20 ? -2 : 0;
    }

    private int otherwise(World world, int s) {
        for (int i = 0; i < rows[s].length; i++) {
            if (world.twin().pass(i + 1).facts() != rows[s][i]) {
                return i;
            }
        }
        return -1;
    }

    public int judge(int s) {
        int r = refusal(s);
        return r != 0 ? r : otherwise(now, s);
    }

    public int kinds(int s, int p, int sort) {
        int r = refusal(s);
        if (r != 0) {
            return r;
        }
        if (!now.has(p)) {
            return -5;
        }
        if (!in(sort, 0, 1)) {
            return -7;
        }
        return bits(sort == 0 ? 6 : 10, v -> {
            World w = now.twin();
            Lady0 l = w.ladies.get(p);
            w.ladies.set(p, Lady0.of(sort == 0 ? v : l.kind, sort == 0 ? l.more : v, l.known, l.face, l.vain));
            return otherwise(w, s) == -1;
        });
    }

    private static int howMany(int what, IntPredicate fits) {
        int many = 0;
        for (int v = 99; v >= 0; v--) {
            many += fits.test(v) ? 1 : 0;
        }
        if (what == 0) {
            return many;
        }
        for (int v = 0; v < 100; v++) {
            if (fits.test(v)) {
                return v;
            }
        }
        return -1;
    }

    public int faces(int s, int p, int what) {
        int r = refusal(s);
        if (r != 0) {
            return r;
        }
        if (!now.has(p)) {
            return -5;
        }
        return !in(what, 0, 1) ? -7 : howMany(what, v -> {
            World w = now.twin();
            w.ladies.get(p).face = v;
            return otherwise(w, s) == -1;
        });
    }

    public int keens(int s, int man, int what) {
        int r = refusal(s);
        if (r != 0) {
            return r;
        }
        if (!in(man, 0, 5)) {
            return -5;
        }
        return !in(what, 0, 1) ? -7 : howMany(what, v -> {
            World w = now.twin();
            w.keen[man] = v;
            return otherwise(w, s) == -1;
        });
    }

    public int burnt(int s) {
        int r = refusal(s);
        return r != 0 ? r : bits(8, h -> {
            World w = now.twin();
            w.cloths[h] = null;
            return now.cloths[h] != null && otherwise(w, s) == -1;
        });
    }

    public int laws(int s) {
        int r = refusal(s);
        return r != 0 ? r : bits(texts.size(), t -> {
            World w = now.twin();
            w.law = texts.get(t);
            return otherwise(w, s) == -1;
        });
    }

    public int film(int s, int n) {
        if (!in(s, 0, 3)) {
            return -2;
        }
        if (!in(n, 0, 20)) {
            return -7;
        }
        rows[s] = new long[n];
        sorts[s] = 0;
        for (int i = 0; i < n; i++) {
            rows[s][i] = now.twin().pass(i + 1).facts();
        }
        return n;
    }

    private World assize(int seed) {
        World w = now.twin();
        long lot = (seed + 1L) * 48271L % 2147483647L;
        for (int i = 0; i < 10; i++) {
            if (w.can((int) (lot % 8))) {
                w.letFall((int) (lot % 8));
            }
            w.pass();
            lot = lot * 48271L % 2147483647L;
        }
        return w;
    }

    public int drawn(int seed, int what) {
        if (!in(seed, 0, 99999) || !in(what, 0, 1)) {
            return -5000;
        }
        World w = assize(seed);
        return what == 0 ? w.verdict() : w.admitted;
    }

    public long odds(int seed, int seeds, int least, int part) {
        if (!in(seed, 0, 99999) || !in(seeds, 1, 40) || !in(least, -999, 999)) {
            return NO;
        }
        int many = 0;
        for (int i = 0; i < seeds; i++) {
            if (assize(seed + i).verdict() >= least) {
                many++;
            }
        }
        return fraction(many, seeds, part);
    }

    public int image() {
        image = now.twin();
        return now.ladies.size();
    }

    public int back() {
        if (image == null) {
            return -3;
        }
        now = image.twin();
        return now.ladies.size();
    }

    public int sheet(int s, int sort, int n) {
        if (!in(s, 0, 3) || !in(sort, -1, 2)) {
            return -2;
        }
        if (sort >= 0 && n > 40) {
            return -2;
        }
        if (sort >= 0 && n < 0) {
            return -14;
        }
        sorts[s] = sort;
        rows[s] = sort < 0 ? null : new long[n];
        return 1;
    }

    public int cell(int s, int i, int v) {
        if (!in(s, 0, 3)) {
            return -2;
        }
        if (rows[s] == null) {
            return -11;
        }
        if (!in(i, 0, rows[s].length - 1)) {
            return -12;
        }
        rows[s][i] = sorts[s] == 0 ? (byte) v : sorts[s] == 1 ? (short) v : v;
        return 1;
    }

    public int copy(int s, int i, int other, int j, int n) {
        if (!in(s, 0, 3) || !in(other, 0, 3)) {
            return -2;
        }
        if (rows[s] == null || rows[other] == null) {
            return -11;
        }
        if (sorts[s] != sorts[other]) {
            return -13;
        }
        if (n < 0 || i < 0 || j < 0 || (long) i + n > rows[s].length || (long) j + n > rows[other].length) {
            return -12;
        }
        long[] was = rows[s].clone();
        for (int k = 0; k < n; k++) {
            rows[other][j + k] = was[i + k];
        }
        return n;
    }

    public int witnessesBy(int s, int sort, int from, int n) {
        if (!in(s, 0, 3) || !in(sort, 0, 2) || !in(n, 0, 6)) {
            return -2;
        }
        if (rows[s] == null) {
            return -11;
        }
        if (sorts[s] != sort) {
            return -13;
        }
        int came = 0;
        for (long at = from; at < from + 3L * n; at += 3) {
            if (at < 0 || at + 2 >= rows[s].length) {
                return -12;
            }
            long[] r = rows[s];
            int i = (int) at;
            came += witness((int) r[i], (int) r[i + 1], (int) r[i + 2]) >= 0 ? 1 : 0;
        }
        return came;
    }

    public int taken(int i, int kind) {
        if (!in(kind, 0, 6)) {
            return -2;
        }
        if (!in(i, 0, 13)) {
            return -12;
        }
        Object it = i > 5 ? now.cloths[i - 6] : now.has(i) ? now.ladies.get(i) : null;
        if (it == null) {
            return -11;
        }
        boolean fits = switch (kind) {
            case 0 -> it instanceof Lady0;
            case 1 -> it instanceof Lady1;
            case 2 -> it instanceof Cook2;
            case 3 -> it instanceof Widow3;
            case 4 -> it instanceof Maid4;
            case 5 -> it instanceof Grey5;
            default -> it instanceof Cloth;
        };
        return !fits ? -13 : it instanceof Cloth c ? c.fact : i;
    }
}
