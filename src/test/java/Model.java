import java.math.BigInteger;
import java.util.ArrayList;
import java.util.HashMap;
import java.util.List;
import java.util.Map;
import java.util.regex.Matcher;
import java.util.regex.Pattern;

/**
 * A second reading of the document, as slow and as literal as can be: exact terms as big integers, rules from traces,
 * complexities from elimination, laps from long stretches of remainders. ModelTest holds AheadRows against it.
 */
public final class Model {
    private static final int NONE = Due.NONE, FAR = Due.FAR, UNKNOWN = Due.UNKNOWN;
    private static final int OUTSIDE = Due.OUTSIDE, STATE = Due.STATE, FULL = Due.FULL;
    private static final BigInteger BILLION = BigInteger.valueOf(1000000000);
    // Laps modulo 2 to 10 are at most 336, and heads short: equal over this stretch means equal for ever.
    private static final int STRETCH = 1100, SURE_HEAD = 40, LONGEST_LAP = 400;

    private List<int[]> rows = new ArrayList<>();
    private List<Integer> given = new ArrayList<>();
    private String page = "";
    private List<int[]> keptRows;
    private List<Integer> keptGiven;
    private boolean readSince;
    private int timesRead;
    private final Map<String, int[]> stretches = new HashMap<>();
    private final Map<Integer, List<BigInteger>> exact = new HashMap<>();

    // ---- texts

    public int letter(int code) {
        if (code < 32 || code > 126) return OUTSIDE;
        if (page.length() == 47) return FULL;
        page += (char) code;
        return page.length();
    }

    public int blank() {
        int before = page.length();
        page = "";
        return before;
    }

    public int fault() {
        for (int i = 1; i <= page.length(); i++) {
            if (!isBeginning(page.substring(0, i))) return i - 1;
        }
        return page.length();
    }

    private static Pattern rowPattern(int index) {
        String told = "t[0-9a-i]{4}";
        if (index == 0) return Pattern.compile(told);
        String part = "[0-" + (index - 1) + "]";
        return Pattern.compile(told + "|[+*]" + part + part + "|e" + part + "[1-5][0-9]|d" + part);
    }

    private static boolean isBeginning(String text) {
        String[] pieces = text.split(";", -1);
        if (pieces.length > 8) return false;
        for (int i = 0; i < pieces.length; i++) {
            Matcher matcher = rowPattern(i).matcher(pieces[i]);
            boolean whole = matcher.matches();
            if (!whole && (i < pieces.length - 1 || !matcher.hitEnd())) return false;
        }
        return true;
    }

    private static int sign(char c) {
        return Character.isDigit(c) ? c - '0' : -(c - 'a' + 1);
    }

    public int rows() {
        String[] pieces = page.split(";", -1);
        if (pieces.length > 8) return STATE;
        for (int i = 0; i < pieces.length; i++) {
            if (!rowPattern(i).matcher(pieces[i]).matches()) return STATE;
        }
        List<int[]> read = new ArrayList<>();
        for (String piece : pieces) {
            int[] row = new int[piece.length()];
            row[0] = "t+*ed".indexOf(piece.charAt(0));
            for (int i = 1; i < piece.length(); i++) row[i] = sign(piece.charAt(i));
            read.add(row);
        }
        rows = read;
        page = "";
        readSince = true;
        timesRead++;
        changed();
        return rows.size();
    }

    private void changed() {
        stretches.clear();
        exact.clear();
    }

    // ---- rows

    private boolean unknown(int row) {
        return row < 0 || row >= rows.size();
    }

    private boolean isTold(int row) {
        return rows.get(row)[0] == 0;
    }

    public int row(int row, int what) {
        if (unknown(row)) return UNKNOWN;
        if (what < 0 || what > 4) return OUTSIDE;
        return what < rows.get(row).length ? rows.get(row)[what] : NONE;
    }

    public int as(int row, int as) {
        if (unknown(row)) return UNKNOWN;
        if (as < 0 || as > 6) return OUTSIDE;
        int kind = rows.get(row)[0];
        boolean fits = kind == as || (as == 5 && (kind == 1 || kind == 2)) || (as == 6 && (kind == 3 || kind == 4));
        return fits ? kind : NONE;
    }

    /** The term, or null if it is far. */
    private BigInteger near(int row, int number) {
        if (number > 200) return null;
        int[] r = rows.get(row);
        BigInteger value = null;
        switch (r[0]) {
            case 0: {
                List<BigInteger> all = exact.computeIfAbsent(row, k -> toldTerms(r));
                for (int k = 0; k <= number; k++) {
                    if (all.get(k).abs().compareTo(BILLION) > 0) return null;
                }
                return all.get(number);
            }
            case 1:
            case 2: {
                BigInteger one = near(r[1], number);
                BigInteger other = near(r[2], number);
                if (one == null || other == null) return null;
                value = r[0] == 1 ? one.add(other) : one.multiply(other);
                break;
            }
            case 3:
                value = near(r[1], r[2] * number + r[3]);
                break;
            default: {
                BigInteger next = near(r[1], number + 1);
                BigInteger now = near(r[1], number);
                if (next == null || now == null) return null;
                value = next.subtract(now);
                break;
            }
        }
        return value == null || value.abs().compareTo(BILLION) > 0 ? null : value;
    }

    private static List<BigInteger> toldTerms(int[] r) {
        List<BigInteger> all = new ArrayList<>();
        all.add(BigInteger.valueOf(r[3]));
        all.add(BigInteger.valueOf(r[4]));
        for (int k = 2; k <= 200; k++) {
            all.add(BigInteger.valueOf(r[1]).multiply(all.get(k - 1)).add(BigInteger.valueOf(r[2]).multiply(all.get(k - 2))));
        }
        return all;
    }

    public int term(int row, int number) {
        if (unknown(row)) return UNKNOWN;
        if (number < 0 || number > 200) return OUTSIDE;
        BigInteger value = near(row, number);
        return value == null ? FAR : value.intValueExact();
    }

    private static long[] times(long[] a, long[] b, int m) {
        return new long[] {
            Math.floorMod(a[0] * b[0] + a[1] * b[2], m), Math.floorMod(a[0] * b[1] + a[1] * b[3], m),
            Math.floorMod(a[2] * b[0] + a[3] * b[2], m), Math.floorMod(a[2] * b[1] + a[3] * b[3], m)};
    }

    private int remainder(int row, long number, int m) {
        int[] r = rows.get(row);
        switch (r[0]) {
            case 0: {
                long[] power = {1, 0, 0, 1};
                long[] square = {0, 1, r[2], r[1]};
                for (long n = number; n > 0; n /= 2) {
                    if (n % 2 == 1) power = times(power, square, m);
                    square = times(square, square, m);
                }
                return (int) Math.floorMod(power[0] * r[3] + power[1] * r[4], (long) m);
            }
            case 1:
                return (remainder(r[1], number, m) + remainder(r[2], number, m)) % m;
            case 2:
                return remainder(r[1], number, m) * remainder(r[2], number, m) % m;
            case 3:
                return remainder(r[1], r[2] * number + r[3], m);
            default:
                return Math.floorMod(remainder(r[1], number + 1, m) - remainder(r[1], number, m), m);
        }
    }

    public int by(int row, int number, int m) {
        if (unknown(row)) return UNKNOWN;
        if (number < 0 || m < 2 || m > 10) return OUTSIDE;
        return remainder(row, number, m);
    }

    /** Remainders of the terms 0 to count - 1, from longer stretches of the parts. */
    private int[] stretch(int row, int m, int count) {
        String key = row + "," + m;
        int[] known = stretches.get(key);
        if (known != null && known.length >= count) return known;
        int[] r = rows.get(row);
        int[] all = new int[count];
        if (r[0] == 0) {
            long before = r[3], last = r[4];
            for (int k = 0; k < count; k++) {
                all[k] = (int) Math.floorMod(before, (long) m);
                long next = Math.floorMod(r[1] * last + r[2] * before, (long) m);
                before = last;
                last = next;
            }
        } else {
            int need = r[0] == 3 ? r[2] * count + r[3] + 1 : count + 1;
            int[] one = stretch(r[1], m, need);
            int[] other = r[0] <= 2 ? stretch(r[2], m, need) : one;
            for (int k = 0; k < count; k++) {
                switch (r[0]) {
                    case 1: all[k] = (one[k] + other[k]) % m; break;
                    case 2: all[k] = one[k] * other[k] % m; break;
                    case 3: all[k] = one[r[2] * k + r[3]]; break;
                    default: all[k] = Math.floorMod(one[k + 1] - one[k], m); break;
                }
            }
        }
        stretches.put(key, all);
        return all;
    }

    private static int lapOf(int[] t) {
        for (int p = 1; p <= LONGEST_LAP; p++) {
            boolean same = true;
            for (int k = SURE_HEAD; k + p < STRETCH && same; k++) same = t[k] == t[k + p];
            if (same) return p;
        }
        throw new IllegalStateException("no lap");
    }

    public int lap(int row, int m, int what) {
        if (unknown(row)) return UNKNOWN;
        if (m < 2 || m > 10 || what < 0 || what > 2) return OUTSIDE;
        int[] t = stretch(row, m, STRETCH);
        int p = lapOf(t);
        if (what == 0) return p;
        int h = SURE_HEAD;
        while (h > 0 && t[h - 1] == t[h - 1 + p]) h--;
        if (what == 1) return h;
        int noughts = 0;
        for (int k = h; k < h + p; k++) if (t[k] == 0) noughts++;
        return noughts;
    }

    public int least(int row, int p, int what) {
        if (unknown(row)) return UNKNOWN;
        if ((p != 2 && p != 3 && p != 5 && p != 7) || what < 0 || what > 8) return OUTSIDE;
        int[] t = stretch(row, p, STRETCH);
        for (int length = 0; length <= 16; length++) {
            int[] factors = solve(t, length, p);
            if (factors == null) continue;
            if (what == 0) return length;
            if (length > 8) return NONE;
            return what <= length ? factors[what - 1] : 0;
        }
        throw new IllegalStateException("no complexity");
    }

    /** Numbers by which each of the terms length to 15 follows from those before it, or null: by elimination. */
    private static int[] solve(int[] t, int length, int p) {
        int n = 16 - length;
        int[][] a = new int[n][length + 1];
        for (int i = 0; i < n; i++) {
            for (int j = 0; j < length; j++) a[i][j] = t[length + i - 1 - j];
            a[i][length] = t[length + i];
        }
        int done = 0;
        int[] pivot = new int[length];
        for (int j = 0; j < length; j++) {
            pivot[j] = -1;
            int found = -1;
            for (int i = done; i < n; i++) if (a[i][j] != 0) found = i;
            if (found < 0) continue;
            int[] swap = a[found];
            a[found] = a[done];
            a[done] = swap;
            int inverse = BigInteger.valueOf(a[done][j]).modInverse(BigInteger.valueOf(p)).intValue();
            for (int q = 0; q <= length; q++) a[done][q] = a[done][q] * inverse % p;
            for (int i = 0; i < n; i++) {
                int factor = a[i][j];
                if (i == done || factor == 0) continue;
                for (int q = 0; q <= length; q++) a[i][q] = Math.floorMod(a[i][q] - factor * a[done][q], p);
            }
            pivot[j] = done++;
        }
        for (int i = done; i < n; i++) if (a[i][length] != 0) return null;
        int[] factors = new int[length];
        for (int j = 0; j < length; j++) factors[j] = pivot[j] < 0 ? 0 : a[pivot[j]][length];
        return factors;
    }

    // ---- rules and roots

    /** The sum of the n-th powers of both roots: the trace of the n-th power of the row's matrix. */
    private static long trace(int[] told, int n) {
        long[] power = {1, 0, 0, 1};
        for (int i = 0; i < n; i++) {
            power = new long[] {
                power[1] * told[2], power[0] + power[1] * told[1],
                power[3] * told[2], power[2] + power[3] * told[1]};
        }
        return power[0] + power[3];
    }

    /** G1 to Gn of the rule whose roots have these sums of powers, after Newton. */
    private static int[] ruleFromPowers(long[] powers) {
        int n = powers.length;
        long[] e = new long[n + 1];
        e[0] = 1;
        for (int k = 1; k <= n; k++) {
            long total = 0;
            for (int i = 1; i <= k; i++) total += (i % 2 == 1 ? 1 : -1) * e[k - i] * powers[i - 1];
            if (total % k != 0) throw new IllegalStateException("not whole");
            e[k] = total / k;
        }
        int[] g = new int[n];
        for (int k = 1; k <= n; k++) g[k - 1] = Math.toIntExact(k % 2 == 1 ? e[k] : -e[k]);
        return g;
    }

    private int[] ruleOf(int row) {
        int[] r = rows.get(row);
        if (r[0] == 0) return ruleFromPowers(new long[] {trace(r, 1), trace(r, 2)});
        for (int i = 1; i <= (r[0] <= 2 ? 2 : 1); i++) if (!isTold(r[i])) return null;
        int[] one = rows.get(r[1]);
        if (r[0] == 4) return ruleOf(r[1]);
        if (r[0] == 3) return ruleFromPowers(new long[] {trace(one, r[2]), trace(one, 2 * r[2])});
        int[] other = rows.get(r[2]);
        long[] powers = new long[4];
        for (int n = 1; n <= 4; n++) {
            powers[n - 1] = r[0] == 1 ? trace(one, n) + trace(other, n) : trace(one, n) * trace(other, n);
        }
        return ruleFromPowers(powers);
    }

    public int rule(int row, int what) {
        if (unknown(row)) return UNKNOWN;
        if (what < 0 || what > 4) return OUTSIDE;
        int[] g = ruleOf(row);
        if (g == null) return STATE;
        if (what == 0) return g.length;
        return what <= g.length ? g[what - 1] : 0;
    }

    /** The smallest n at which the powers of both roots are equal: (x^n - y^n) / (x - y) is 0, and x is not y. */
    static int order(int c, int d) {
        if (d == 0 || c * c + 4 * d == 0) return 0;
        BigInteger before = BigInteger.ZERO, last = BigInteger.ONE;
        for (int n = 2; n <= 40; n++) {
            BigInteger next = last.multiply(BigInteger.valueOf(c)).add(before.multiply(BigInteger.valueOf(d)));
            before = last;
            last = next;
            if (last.signum() == 0) return n;
        }
        return 0;
    }

    public int roots(int row, int what) {
        if (unknown(row)) return UNKNOWN;
        if (what < 0 || what > 4) return OUTSIDE;
        if (!isTold(row)) return STATE;
        int c = rows.get(row)[1], d = rows.get(row)[2];
        double under = c * c + 4.0 * d;
        double greater = (c + Math.sqrt(under)) / 2, lesser = (c - Math.sqrt(under)) / 2;
        switch (what) {
            case 0:
                return under < 0 ? 0 : greater == lesser ? 1 : 2;
            case 1:
            case 2:
                for (int x = -50; x <= 50; x++) {
                    int y = c - x;
                    if (x * x == c * x + d && y * y == c * y + d) return what == 1 ? Math.max(x, y) : Math.min(x, y);
                }
                return NONE;
            case 3:
                return order(c, d);
            default:
                if (under < 0 || Math.abs(greater) == Math.abs(lesser)) return 0;
                return (Math.abs(greater) > Math.abs(lesser) ? greater : lesser) > 0 ? 1 : -1;
        }
    }

    // ---- noughts

    public int noughts(int row) {
        if (unknown(row)) return UNKNOWN;
        int set = 0;
        for (int k = 0; k <= 23; k++) if (BigInteger.ZERO.equals(near(row, k))) set += 1 << k;
        return set;
    }

    public int ends(int row) {
        if (unknown(row)) return UNKNOWN;
        for (int m = 2; m <= 10; m++) if (lap(row, m, 2) == 0) return m;
        return NONE;
    }

    public int open(int row, int what) {
        if (unknown(row)) return UNKNOWN;
        if (what < 0 || what > 1) return OUTSIDE;
        List<Integer> found = new ArrayList<>();
        for (int k = 0; k <= 999; k++) {
            boolean all = true;
            for (int m = 2; m <= 10; m++) all &= stretch(row, m, STRETCH)[k] == 0;
            if (all) found.add(k);
        }
        if (what == 0) return found.size();
        return found.isEmpty() ? NONE : found.get(found.size() - 1);
    }

    public int meets(int one, int other, int m) {
        if (unknown(one) || unknown(other)) return UNKNOWN;
        if (m < 2 || m > 10) return OUTSIDE;
        for (int k = 0; k < STRETCH; k++) {
            if (stretch(one, m, STRETCH)[k] == stretch(other, m, STRETCH)[k]) return k;
        }
        return NONE;
    }

    // ---- what is done

    private int add(int... row) {
        if (rows.size() == 8) return FULL;
        rows.add(row);
        changed();
        return rows.size() - 1;
    }

    private static boolean out(int v, int most) {
        return v < -most || v > most;
    }

    public int told(int c, int d, int e, int f) {
        if (out(c, 9) || out(d, 9) || out(e, 999) || out(f, 999)) return OUTSIDE;
        return add(0, c, d, e, f);
    }

    public int sum(int one, int other) {
        if (unknown(one) || unknown(other)) return UNKNOWN;
        return add(1, one, other);
    }

    public int product(int one, int other) {
        if (unknown(one) || unknown(other)) return UNKNOWN;
        return add(2, one, other);
    }

    public int each(int row, int n, int s) {
        if (unknown(row)) return UNKNOWN;
        if (n < 1 || n > 5 || s < 0 || s > 9) return OUTSIDE;
        return add(3, row, n, s);
    }

    public int step(int row) {
        if (unknown(row)) return UNKNOWN;
        return add(4, row);
    }

    public int put(int row, int what, int v) {
        if (unknown(row)) return UNKNOWN;
        if (what < 0 || what > 3) return OUTSIDE;
        if (!isTold(row)) return STATE;
        if (out(v, what < 2 ? 9 : 999)) return OUTSIDE;
        int[] fresh = rows.get(row).clone();
        int before = fresh[what + 1];
        fresh[what + 1] = v;
        rows.set(row, fresh);
        changed();
        return before;
    }

    public int drop() {
        if (rows.isEmpty()) return STATE;
        rows.remove(rows.size() - 1);
        changed();
        return rows.size();
    }

    public int ease(int row) {
        if (unknown(row)) return UNKNOWN;
        int[] r = rows.get(row);
        if (r[0] == 0 || !isTold(r[1]) || (r[0] <= 2 && !isTold(r[2]))) return STATE;
        int[] one = rows.get(r[1]);
        int c, d;
        if (r[0] == 3) {
            c = rule(row, 1);
            d = rule(row, 2);
        } else if (r[0] == 4) {
            c = one[1];
            d = one[2];
        } else {
            int[] other = rows.get(r[2]);
            if (r[0] == 1) {
                if (one[1] != other[1] || one[2] != other[2]) return STATE;
                c = one[1];
                d = one[2];
            } else {
                int[] powers = one[2] == 0 && one[4] == one[1] * one[3] ? one : other;
                int[] rest = powers == one ? other : one;
                if (powers[2] != 0 || powers[4] != powers[1] * powers[3]) return STATE;
                c = one[1] * other[1];
                d = powers[1] * powers[1] * rest[2];
            }
        }
        BigInteger e = near(row, 0), f = near(row, 1);
        if (e == null || f == null || out(c, 9) || out(d, 9) || out(e.intValueExact(), 999) || out(f.intValueExact(), 999)) return STATE;
        rows.set(row, new int[] {0, c, d, e.intValueExact(), f.intValueExact()});
        changed();
        return r[0];
    }

    // ---- what is given

    public int give(int v) {
        if (out(v, 99)) return OUTSIDE;
        if (given.size() == 8) return FULL;
        given.add(v);
        return given.size();
    }

    public int forget() {
        int before = given.size();
        given.clear();
        return before;
    }

    private int[] guessed() {
        boolean allNought = true;
        for (int v : given) allNought &= v == 0;
        if (allNought) return new int[] {0, 0, 0};
        for (int u = -9; u <= 9; u++) {
            boolean fits = true;
            for (int k = 1; k < given.size(); k++) fits &= given.get(k) == u * given.get(k - 1);
            if (fits) return new int[] {1, u, 0};
        }
        for (int u = -9; u <= 9; u++) {
            for (int v = -9; v <= 9; v++) {
                boolean fits = true;
                for (int k = 2; k < given.size(); k++) fits &= given.get(k) == u * given.get(k - 1) + v * given.get(k - 2);
                if (fits) return new int[] {2, u, v};
            }
        }
        return null;
    }

    public int guess(int what) {
        if (what < 0 || what > 2) return OUTSIDE;
        int[] guess = guessed();
        return guess == null ? NONE : guess[what];
    }

    public int found() {
        int[] guess = guessed();
        if (guess == null) return STATE;
        if (guess[0] == 0) return add(0, 0, 0, 0, 0);
        if (guess[0] == 1) return add(0, guess[1], 0, given.get(0), guess[1] * given.get(0));
        return add(0, guess[1], guess[2], given.get(0), given.get(1));
    }

    public int drawn(int times, int seed, int what) {
        if (times < 1 || times > 30 || seed < 0 || what < 0 || what > 2) return OUTSIDE;
        BigInteger s = BigInteger.valueOf(seed);
        int laps = 0, degenerate = 0;
        for (int i = 0; i < times; i++) {
            int[] n = new int[4];
            for (int j = 0; j < 4; j++) {
                s = s.multiply(BigInteger.valueOf(1103515245)).add(BigInteger.valueOf(12345)).mod(BigInteger.TWO.pow(31));
                n[j] = s.divide(BigInteger.valueOf(65536)).mod(BigInteger.valueOf(7)).intValue() - 3;
            }
            Model other = new Model();
            other.told(n[0], n[1], n[2], n[3]);
            laps += other.lap(0, 5, 0);
            if (order(n[0], n[1]) != 0) degenerate++;
        }
        return what == 0 ? laps : what == 1 ? degenerate : s.intValueExact();
    }

    // ---- what is told of all

    public int image() {
        if (rows.isEmpty()) return STATE;
        keptRows = new ArrayList<>(rows);
        keptGiven = new ArrayList<>(given);
        readSince = false;
        return rows.size();
    }

    public int restore() {
        if (keptRows == null || readSince) return STATE;
        rows = new ArrayList<>(keptRows);
        given = new ArrayList<>(keptGiven);
        changed();
        return rows.size();
    }

    public int count(int what) {
        if (what < 0 || what > 5) return OUTSIDE;
        int told = 0, degenerate = 0;
        for (int[] r : rows) {
            if (r[0] != 0) continue;
            told++;
            if (order(r[1], r[2]) != 0) degenerate++;
        }
        return new int[] {rows.size(), told, degenerate, given.size(), page.length(), timesRead}[what];
    }

    public long digest() {
        List<Integer> values = new ArrayList<>();
        for (int row = 0; row < rows.size(); row++) {
            for (int what = 0; what <= 4; what++) values.add(row(row, what));
            for (int number = 0; number <= 7; number++) values.add(term(row, number));
            values.add(by(row, 1000000, 7));
            for (int what = 0; what <= 2; what++) values.add(lap(row, 5, what));
            values.add(noughts(row));
        }
        values.addAll(given);
        for (int what = 0; what <= 2; what++) values.add(guess(what));
        for (char c : page.toCharArray()) values.add((int) c);
        for (int what = 0; what <= 5; what++) values.add(count(what));
        long h = 1493;
        for (int v : values) h = 31 * h + v;
        return h;
    }
}
