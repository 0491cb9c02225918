import java.util.ArrayList;
import java.util.Arrays;
import java.util.HashMap;
import java.util.List;
import java.util.Map;

/**
 * The document once more, written as plainly as can be and by other ways than the class goes
 * (all MOVES are tried, a TEXT is read from its grammar), so that both can be held against each other.
 */
final class Model {
    static final int BEYOND = -1000000001;
    static final int FULL = -1000000002;
    static final int KIND = -1000000003;
    static final int NONE = -1000000004;
    static final int STATE = -1000000005;
    static final int MISSING = -1000000006;
    static final int SIZE = -1000000007;

    static final class Warned implements Cloneable {
        int kind;
        int day;
        int at;
        int width;
        int chance;
        int looks;

        Warned twin() {
            try {
                return (Warned) clone();
            } catch (CloneNotSupportedException e) {
                throw new AssertionError(e);
            }
        }
    }

    static final class All {
        int today;
        int height;
        int price = 1;
        int use = 100;
        int off = 10;
        int harm = 1000000;
        int keep = 0;
        int fuel = 9;
        long score;
        long risk;
        List<Warned> warnings = new ArrayList<>();
        String rule = "";

        All twin() {
            All a = new All();
            a.today = today;
            a.height = height;
            a.price = price;
            a.use = use;
            a.off = off;
            a.harm = harm;
            a.keep = keep;
            a.fuel = fuel;
            a.score = score;
            a.risk = risk;
            for (Warned w : warnings) {
                a.warnings.add(w.twin());
            }
            a.rule = rule;
            return a;
        }
    }

    All x = new All();
    All kept = null;
    String tape = "";
    long[][] sheets = new long[4][];
    int[] bits = new int[4];
    int[] told = new int[7];

    int finding(int f) {
        told[-1000000001 - f]++;
        return f;
    }

    static boolean in(long v, long a, long b) {
        return a <= v && v <= b;
    }

    // ---- the thing

    int plan(int what, int v) {
        int was;
        switch (what) {
            case 0: if (!in(v, 1, 9)) return finding(BEYOND); was = x.price; x.price = v; return was;
            case 1: if (!in(v, 0, 9999)) return finding(BEYOND); was = x.use; x.use = v; return was;
            case 2: if (!in(v, 0, 999)) return finding(BEYOND); was = x.off; x.off = v; return was;
            case 3: if (!in(v, 0, 99999999)) return finding(BEYOND); was = x.harm; x.harm = v; return was;
            case 4: if (!in(v, 0, 60)) return finding(BEYOND); was = x.keep; x.keep = v; return was;
            case 5: if (!in(v, 0, 60)) return finding(BEYOND); was = x.fuel; x.fuel = v; return was;
            default: return finding(BEYOND);
        }
    }

    static boolean can(All a, long s) {
        return s == 0 || in(a.height + s, -12, 12) && a.fuel - a.price * Math.abs(s) >= a.keep;
    }

    static void go(All a, int s) {
        a.height += s;
        a.fuel -= a.price * Math.abs(s);
    }

    static int useAt(All a, int h) {
        return Math.max(0, a.use - a.off * Math.abs(h));
    }

    static void end(All a) {
        a.today++;
        a.score += useAt(a, a.height);
        a.risk += dangerOf(a, a.today, a.height);
    }

    int move(int s) {
        if (!in(s, -24, 24)) return finding(BEYOND);
        if (!can(x, s)) return finding(STATE);
        go(x, s);
        return x.height;
    }

    int may(int s) {
        if (!in(s, -24, 24)) return finding(BEYOND);
        return can(x, s) ? 1 : 0;
    }

    int days(int n) {
        if (!in(n, 1, 100)) return finding(BEYOND);
        if (x.today + n > 999) return finding(STATE);
        for (int i = 0; i < n; i++) end(x);
        return x.today;
    }

    int runs(int n) {
        if (!in(n, 1, 100)) return finding(BEYOND);
        if (x.today + n > 999) return finding(STATE);
        for (int i = 0; i < n; i++) {
            go(x, byRule(x));
            end(x);
        }
        return x.today;
    }

    long thing(int what) {
        if (!in(what, 0, 4)) return finding(BEYOND);
        return new long[] {x.today, x.height, x.fuel, x.score, x.risk}[what];
    }

    // ---- warnings

    int warn(int kind, int of, int chance) {
        if (!in(kind, 0, 5) || of < 0 || !in(chance, 0, 1000000)) return finding(BEYOND);
        Warned w = new Warned();
        w.kind = kind;
        w.day = of / 10000;
        w.at = of % 10000 / 100 - 12;
        w.width = of % 100;
        w.chance = chance;
        if (w.day > 999 || w.day <= x.today || w.at > 12 || w.width > 9) return finding(BEYOND);
        if (x.warnings.size() == 12) return finding(FULL);
        x.warnings.add(w);
        return x.warnings.size() - 1;
    }

    boolean is(int warning) {
        return in(warning, 0, x.warnings.size() - 1);
    }

    int of(int warning, int what) {
        if (!is(warning) || !in(what, 0, 6)) return finding(BEYOND);
        Warned w = x.warnings.get(warning);
        return new int[] {w.kind, w.day, w.at, w.width, w.chance, w.looks, w.day > x.today ? 1 : 0}[what];
    }

    int as(int warning, int kind) {
        if (!is(warning) || !in(kind, 0, 5)) return finding(BEYOND);
        int k = x.warnings.get(warning).kind;
        while (k != kind && k != 0) {
            k = k == 4 ? 2 : k == 5 ? 1 : 0;
        }
        return k == kind ? x.warnings.get(warning).chance : finding(KIND);
    }

    static long plainly(Warned w, int d) {
        return d > w.width ? 0 : (long) w.chance * (w.width + 1 - d) / (w.width + 1);
    }

    static long struckBy(Warned w, int h, int kind) {
        int d = Math.abs(h - w.at);
        switch (kind) {
            case 0: return plainly(w, d);
            case 1: return Math.min(1000000, plainly(w, d) + plainly(w, d) / 2);
            case 2: return plainly(w, d == 0 ? 0 : d + 1);
            case 3: return plainly(w, d / 2);
            case 4: return struckBy(w, h, 2) / 2;
            default: return struckBy(w, h, 1) / 4;
        }
    }

    int struck(int warning, int h) {
        if (!is(warning) || !in(h, -12, 12)) return finding(BEYOND);
        return (int) struckBy(x.warnings.get(warning), h, x.warnings.get(warning).kind);
    }

    static long behind(long c, long s, boolean real) {
        long up = real ? c * s : c * (100 - s);
        long by = up + (real ? (1000000 - c) * (100 - s) : (1000000 - c) * s);
        return by == 0 ? -1 : up * 1000000 / by;
    }

    int look(int warning, int s, boolean real) {
        int c = think(warning, s, real);
        if (c >= 0) {
            x.warnings.get(warning).chance = c;
            x.warnings.get(warning).looks++;
        }
        return c;
    }

    int think(int warning, int s, boolean real) {
        if (!is(warning) || !in(s, 50, 100)) return finding(BEYOND);
        Warned w = x.warnings.get(warning);
        long c = behind(w.chance, s, real);
        return w.day <= x.today || c < 0 ? finding(STATE) : (int) c;
    }

    static int dangerOf(All a, int day, int h) {
        long sum = 0;
        for (Warned w : a.warnings) {
            if (w.day == day) sum += struckBy(w, h, w.kind);
        }
        return (int) Math.min(1000000, sum);
    }

    int danger(int day, int h) {
        if (!in(day, 0, 999) || !in(h, -12, 12)) return finding(BEYOND);
        return dangerOf(x, day, h);
    }

    int safest(int day) {
        if (!in(day, 0, 999)) return finding(BEYOND);
        int found = -12;
        for (int h = -11; h <= 12; h++) {
            int less = Integer.compare(dangerOf(x, day, h), dangerOf(x, day, found));
            if (less < 0 || less == 0 && Math.abs(h - x.height) < Math.abs(found - x.height)) found = h;
        }
        return found;
    }

    int open() {
        int set = 0;
        for (int i = 0; i < x.warnings.size(); i++) {
            if (x.warnings.get(i).day > x.today) set += 1 << i;
        }
        return set;
    }

    // ---- the rule

    int feed(int bytes, int n) {
        if (!in(n, 1, 4)) return finding(BEYOND);
        if (tape.length() + n > 60) return finding(FULL);
        String b = "" + (char) (bytes >>> 24) + (char) (bytes >> 16 & 255) + (char) (bytes >> 8 & 255)
                + (char) (bytes & 255);
        tape += b.substring(4 - n);
        return tape.length();
    }

    int wipe() {
        int n = tape.length();
        tape = "";
        return n;
    }

    int rule() {
        int fault = Grammar.fault(tape);
        if (fault >= 0) return -1 - fault;
        x.rule = tape;
        tape = "";
        return 0;
    }

    int drift() {
        int was = x.rule.isEmpty() ? 0 : 1;
        x.rule = "";
        return was;
    }

    static int next(All a) {
        int day = -1;
        for (Warned w : a.warnings) {
            if (w.day > a.today && (day < 0 || w.day < day)) day = w.day;
        }
        return day;
    }

    static int opened(All a) {
        int n = 0;
        for (Warned w : a.warnings) {
            if (w.day > a.today) n++;
        }
        return n;
    }

    static int tells(All a) {
        if (a.rule.isEmpty()) return 0;
        Map<Character, Integer> names = new HashMap<>();
        names.put('c', dangerOf(a, a.today + 1, a.height));
        names.put('d', next(a) < 0 ? 999 : next(a) - a.today);
        names.put('f', a.fuel);
        names.put('h', a.height);
        names.put('n', opened(a));
        names.put('t', a.today);
        return new Grammar(a.rule, names).tells();
    }

    static int byRule(All a) {
        int want = Math.max(-24, Math.min(24, tells(a)));
        int found = 0;
        for (int s = -24; s <= 24; s++) {
            boolean sameWay = Integer.signum(s) == Integer.signum(want);
            if (sameWay && can(a, s) && Math.abs(s) <= Math.abs(want) && Math.abs(s) > Math.abs(found)) found = s;
        }
        return found;
    }

    int says(int what) {
        if (!in(what, 0, 1)) return finding(BEYOND);
        return what == 0 ? tells(x) : byRule(x);
    }

    // ---- what is best

    static final class Way {
        long worth;
        int fuel;
        int[] moves = new int[0];
    }

    static long worth(All a, int day, int h) {
        return useAt(a, h) - (long) a.harm * dangerOf(a, day, h) / 1000000;
    }

    static int rank(int move) {
        return move == 0 ? 0 : 2 * Math.abs(move) + (move < 0 ? 0 : 1);
    }

    static boolean isAhead(Way a, Way b) {
        if (a.worth != b.worth) return a.worth > b.worth;
        if (a.fuel != b.fuel) return a.fuel < b.fuel;
        for (int i = 0; i < a.moves.length; i++) {
            if (rank(a.moves[i]) != rank(b.moves[i])) return rank(a.moves[i]) < rank(b.moves[i]);
        }
        return false;
    }

    /** The best way for the n DAYS behind a DAY, from a HEIGHT with so much FUEL. */
    static Way way(All a, int day, int h, int fuel, int n, Map<Integer, Way> known) {
        if (n == 0) return new Way();
        int key = (n * 25 + h + 12) * 61 + fuel;
        Way best = known == null ? null : known.get(key);
        if (best != null) return best;
        for (int s = -24; s <= 24; s++) {
            int left = fuel - a.price * Math.abs(s);
            if (s != 0 && (left < a.keep || !in(h + s, -12, 12))) continue;
            Way tail = way(a, day + 1, h + s, left, n - 1, known);
            Way w = new Way();
            w.worth = tail.worth + worth(a, day + 1, h + s);
            w.fuel = tail.fuel + fuel - left;
            w.moves = new int[n];
            w.moves[0] = s;
            System.arraycopy(tail.moves, 0, w.moves, 1, n - 1);
            if (best == null || isAhead(w, best)) best = w;
        }
        if (known != null) known.put(key, best);
        return best;
    }

    static Way bestOf(All a, int n) {
        return way(a, a.today, a.height, a.fuel, n, n <= 2 ? null : new HashMap<>());
    }

    long best(int n, int what) {
        if (!in(n, 1, 8) || !in(what, 0, 3)) return finding(BEYOND);
        Way w = bestOf(x, n);
        int moving = 0;
        for (int s : w.moves) moving += s == 0 ? 0 : 1;
        return new long[] {w.worth, w.fuel, moving, w.moves[0]}[what];
    }

    int turn(int n, int i) {
        if (!in(n, 1, 8) || !in(i, 0, n - 1)) return finding(BEYOND);
        return bestOf(x, n).moves[i];
    }

    long rest(int n) {
        if (!in(n, 1, 8)) return finding(BEYOND);
        long sum = 0;
        for (int i = 1; i <= n; i++) sum += worth(x, x.today + i, x.height);
        return sum;
    }

    int home(int danger, int more) {
        if (!in(danger, 0, 1000000) || !in(more, 0, 20)) return finding(BEYOND);
        if (x.height == 0) return finding(STATE);
        for (int n = 1; n <= 40 && can(x, -x.height); n++) {
            boolean calm = true;
            for (int i = 0; i <= more; i++) calm &= dangerOf(x, x.today + n + i, 0) <= danger;
            if (calm) return n;
        }
        return finding(NONE);
    }

    long know(int warning, int s, int n) {
        if (!is(warning) || !in(s, 50, 100) || !in(n, 1, 8)) return finding(BEYOND);
        if (x.warnings.get(warning).day <= x.today) return finding(STATE);
        long c = x.warnings.get(warning).chance;
        long without = bestOf(x, n).worth;
        long[] with = new long[2];
        for (int real = 0; real < 2; real++) {
            All a = x.twin();
            long chance = behind(c, s, real == 1);
            if (chance >= 0) a.warnings.get(warning).chance = (int) chance;
            with[real] = bestOf(a, n).worth;
        }
        long m = (c * s + (1000000 - c) * (100 - s)) / 100;
        return (with[1] * m + with[0] * (1000000 - m)) / 1000000 - without;
    }

    /** The DAY on which it is STRUCK, or n and 1. */
    int strike(int lots, int n) {
        All a = x.twin();
        int l = lots;
        for (int i = 1; i <= n; i++) {
            go(a, byRule(a));
            end(a);
            l = l * 1103515245 + 12345;
            if ((l >>> 16) % 10000 < dangerOf(a, a.today, a.height) / 100) return i;
        }
        return n + 1;
    }

    int life(int lots, int n) {
        if (!in(n, 1, 100)) return finding(BEYOND);
        return Math.min(n, strike(lots, n));
    }

    int lives(int l, int many, int n) {
        if (!in(many, 1, 50) || !in(n, 1, 100)) return finding(BEYOND);
        int lasting = 0;
        for (int i = 0; i < many; i++) lasting += strike(l + i, n) > n ? 1 : 0;
        return lasting;
    }

    // ---- two, a swarm

    int pairFinding(int s) {
        if (!in(s, 0, 3)) return BEYOND;
        if (sheets[s] == null) return MISSING;
        if (sheets[s].length != 8) return SIZE;
        for (long v : sheets[s]) if (!in(v, -1000000, 1000000)) return KIND;
        return 0;
    }

    static int restsOf(long[] p) {
        int set = 0;
        if (p[0] >= p[1] && p[4] >= p[6]) set |= 1;
        if (p[1] >= p[0] && p[5] >= p[7]) set |= 2;
        if (p[2] >= p[3] && p[6] >= p[4]) set |= 4;
        if (p[3] >= p[2] && p[7] >= p[5]) set |= 8;
        return set;
    }

    int rests(int s) {
        int f = pairFinding(s);
        return f != 0 ? finding(f) : restsOf(sheets[s]);
    }

    int both(int s, int what) {
        int f = in(what, 0, 1) ? pairFinding(s) : BEYOND;
        if (f != 0) return finding(f);
        long most = Long.MIN_VALUE;
        long mostOfRests = Long.MIN_VALUE;
        for (int i = 0; i < 4; i++) {
            long sum = sheets[s][i] + sheets[s][i + 4];
            most = Math.max(most, sum);
            if ((restsOf(sheets[s]) & 1 << i) != 0) mostOfRests = Math.max(mostOfRests, sum);
        }
        if (what == 0) return (int) most;
        return restsOf(sheets[s]) == 0 ? finding(NONE) : (int) (most - mostOfRests);
    }

    static final class Apart {
        int moving;
        int steps;
        int[] moves = new int[0];
    }

    static boolean isAhead(Apart a, Apart b) {
        if (a.moving != b.moving) return a.moving < b.moving;
        if (a.steps != b.steps) return a.steps < b.steps;
        for (int i = 0; i < a.moves.length; i++) {
            if (rank(a.moves[i]) != rank(b.moves[i])) return rank(a.moves[i]) < rank(b.moves[i]);
        }
        return false;
    }

    /** How numbers i, i + 1, .. are put apart if the one ahead of them is at a height; null if they can't be. */
    static Apart apart(long[] row, int i, long ahead, int gap, int most, Map<String, Apart> known) {
        if (i == row.length) return new Apart();
        String key = i + " " + ahead;
        if (known.containsKey(key)) return known.get(key);
        Apart best = null;
        for (int s = -most; s <= most; s++) {
            if (i > 0 && Math.abs(row[i] + s - ahead) < gap) continue;
            Apart tail = apart(row, i + 1, row[i] + s, gap, most, known);
            if (tail == null) continue;
            Apart a = new Apart();
            a.moving = tail.moving + (s == 0 ? 0 : 1);
            a.steps = tail.steps + Math.abs(s);
            a.moves = new int[row.length - i];
            a.moves[0] = s;
            System.arraycopy(tail.moves, 0, a.moves, 1, a.moves.length - 1);
            if (best == null || isAhead(a, best)) best = a;
        }
        known.put(key, best);
        return best;
    }

    int swarm(int s, int gap, int most, int what) {
        if (!in(s, 0, 3) || !in(gap, 0, 50) || !in(most, 0, 20) || !in(what, 0, 13)) return finding(BEYOND);
        if (sheets[s] == null) return finding(MISSING);
        if (!in(sheets[s].length, 2, 12)) return finding(SIZE);
        for (long v : sheets[s]) if (!in(v, -100, 100)) return finding(KIND);
        Apart a = apart(sheets[s], 0, 0, gap, most, new HashMap<>());
        if (a == null || what - 2 >= sheets[s].length) return finding(NONE);
        return what == 0 ? a.moving : what == 1 ? a.steps : a.moves[what - 2];
    }

    // ---- sheets

    int sheet(int s, int b, int n) {
        if (!in(s, 0, 3) || b != 0 && b != 8 && b != 16 && b != 64) return finding(BEYOND);
        if (n < 0) return finding(SIZE);
        if (n > 40) return finding(BEYOND);
        bits[s] = b;
        sheets[s] = b == 0 ? null : new long[n];
        return b == 0 ? 0 : n;
    }

    long write(int s, int i, long v) {
        if (!in(s, 0, 3)) return finding(BEYOND);
        if (sheets[s] == null) return finding(MISSING);
        if (!in(i, 0, sheets[s].length - 1)) return finding(BEYOND);
        long was = sheets[s][i];
        sheets[s][i] = v << 64 - bits[s] >> 64 - bits[s];
        return was;
    }

    int copy(int s, int from, int t, int to, int n) {
        if (!in(s, 0, 3) || !in(t, 0, 3)) return finding(BEYOND);
        if (sheets[s] == null || sheets[t] == null) return finding(MISSING);
        if (bits[s] != bits[t]) return finding(KIND);
        if (from < 0 || to < 0 || n < 0) return finding(BEYOND);
        if ((long) from + n > sheets[s].length || (long) to + n > sheets[t].length) return finding(BEYOND);
        long[] all = Arrays.copyOfRange(sheets[s], from, from + n);
        for (int i = 0; i < n; i++) sheets[t][to + i] = all[i];
        return n;
    }

    int turns(int s) {
        if (!in(s, 0, 3)) return finding(BEYOND);
        if (sheets[s] == null) return finding(MISSING);
        int ended = 0;
        for (long v : sheets[s]) {
            if (x.today == 999 || !in(v, -24, 24) || !can(x, v)) continue;
            go(x, (int) v);
            end(x);
            ended++;
        }
        return ended;
    }

    int read(int s) {
        if (!in(s, 0, 3)) return finding(BEYOND);
        if (sheets[s] == null) return finding(MISSING);
        int day = x.today;
        for (long v : sheets[s]) {
            day++;
            if (v != dangerOf(x, day, x.height)) return day - x.today;
        }
        return 0;
    }

    // ---- images

    int image() {
        kept = x.twin();
        return 1;
    }

    int undo() {
        if (kept == null) return finding(NONE);
        x = kept.twin();
        return x.today;
    }

    int tear() {
        int was = kept == null ? 0 : 1;
        kept = null;
        return was;
    }

    int count(int what) {
        if (!in(what, 0, 5)) return finding(BEYOND);
        int looks = 0;
        for (Warned w : x.warnings) looks += w.looks;
        int ruled = x.rule.isEmpty() ? 0 : 1;
        return new int[] {x.warnings.size(), opened(x), looks, ruled, tape.length(), next(x)}[what];
    }

    int status(int which) {
        if (!in(which, -1, 6)) return finding(BEYOND);
        return which < 0 ? Arrays.stream(told).sum() : told[which];
    }
}
