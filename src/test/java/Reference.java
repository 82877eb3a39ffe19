import java.math.BigInteger;
import java.util.ArrayList;
import java.util.Arrays;
import java.util.Comparator;
import java.util.List;
import java.util.TreeSet;

/**
 * The document's words again, in the slowest and plainest form: every t is tried, every state is a
 * fresh copy. ReferenceTest compares it with the program, call by call.
 */
final class Reference {
    private static final int NONE = -9;

    private static final class Situation {
        List<int[]> rows = new ArrayList<>();
        List<int[]> atoms = new ArrayList<>();
        int steps;
        int drops;

        Situation copy() {
            Situation c = new Situation();
            for (int[] r : rows) {
                c.rows.add(r.clone());
            }
            for (int[] a : atoms) {
                c.atoms.add(a.clone());
            }
            c.steps = steps;
            c.drops = drops;
            return c;
        }
    }

    private final StringBuilder text = new StringBuilder();
    private int d = 1;
    private int kind = 0;
    private List<int[]> vertices = List.of(new int[] {0}, new int[] {1});
    private Situation now = new Situation();
    private final List<Situation> past = new ArrayList<>();
    private final Situation[] slots = new Situation[2];

    Reference() {
        now.rows.add(new int[] {1, 0});
        now.atoms.add(new int[] {0, 100});
    }

    private static void index(boolean good) {
        if (!good) {
            throw new IndexOutOfBoundsException();
        }
    }

    private static void argument(boolean good) {
        if (!good) {
            throw new IllegalArgumentException();
        }
    }

    private static void state(boolean good) {
        if (!good) {
            throw new IllegalStateException();
        }
    }

    private static boolean in(long v, long low, long high) {
        return low <= v && v <= high;
    }

    public int append(int c) {
        argument(in(c, 0, 255));
        state(text.length() < 90);
        text.append((char) c);
        return text.length();
    }

    public int clearText() {
        int n = text.length();
        text.setLength(0);
        return n;
    }

    /** The characters that may stand at place i behind a good beginning; '.' for the end of the text. */
    private String allowed(int i) {
        if (i < 3) {
            return new String[] {"P", "1234", "sbcpl"}[i];
        }
        int n = text.charAt(1) - '0';
        char letter = text.charAt(2);
        int end = letter == 's' || letter == 'c' ? 4 : 3 + n;
        if (letter == 'l') {
            if (i == 3) {
                return "12345678";
            }
            end = 4 + n * (text.charAt(3) - '0');
        }
        if (i < end) {
            if (letter != 'l') {
                return letter == 'p' ? "0123456789" : "123456789";
            }
            return digitsOfPoint(i, n);
        }
        int length = 1 + 2 * n + 3;
        int row = (i - end) / length;
        int column = (i - end) % length;
        if (column == 0) {
            return row == 0 ? "r" : row == 4 ? "." : "r.";
        }
        return column % 2 == 1 && column <= 2 * n + 1 ? "+-" : "0123456789";
    }

    private String digitsOfPoint(int i, int n) {
        StringBuilder good = new StringBuilder("0123456789");
        if ((i - 4) % n == n - 1) {
            String begun = text.substring(i - n + 1, i);
            for (int at = 4; at < i - n + 1; at += n) {
                if (text.substring(at, at + n - 1).equals(begun)) {
                    good.deleteCharAt(good.indexOf(text.substring(at + n - 1, at + n)));
                }
            }
        }
        return good.toString();
    }

    public int errorPosition() {
        for (int i = 0; i < text.length(); i++) {
            if (text.charAt(i) == '.' || allowed(i).indexOf(text.charAt(i)) < 0) {
                return i;
            }
        }
        return allowed(text.length()).indexOf('.') >= 0 ? NONE : text.length();
    }

    public int load() {
        state(errorPosition() == NONE);
        d = text.charAt(1) - '0';
        kind = "sbcpl".indexOf(text.charAt(2));
        String rest = text.substring(3);
        String body = rest.substring(0, rest.indexOf('r'));
        TreeSet<int[]> found = new TreeSet<>(Arrays::compare);
        if (kind == 0 || kind == 2) {
            int r = body.charAt(0) - '0';
            for (int j = 0; j < d; j++) {
                int[] p = new int[d];
                p[j] = r;
                found.add(p);
                int[] q = new int[d];
                q[j] = kind == 0 ? 0 : -r;
                found.add(q);
            }
        } else if (kind == 1) {
            mix(found, body, new int[d], 0);
        } else if (kind == 3) {
            permute(found, body, new int[0]);
        } else {
            for (int at = 1; at < body.length(); at += d) {
                found.add(digits(body.substring(at, at + d)));
            }
        }
        vertices = new ArrayList<>(found);
        now = new Situation();
        for (String r : rest.substring(rest.indexOf('r') + 1).split("r")) {
            int[] row = new int[d + 1];
            for (int j = 0; j < d; j++) {
                row[j] = Integer.parseInt(r.substring(2 * j, 2 * j + 2));
            }
            row[d] = Integer.parseInt(r.substring(2 * d));
            now.rows.add(row);
        }
        now.atoms.add(new int[] {0, 100});
        past.clear();
        Arrays.fill(slots, null);
        return vertices.size();
    }

    private static int[] digits(String s) {
        return s.chars().map(c -> c - '0').toArray();
    }

    private void mix(TreeSet<int[]> found, String sizes, int[] p, int j) {
        if (j == d) {
            found.add(p);
            return;
        }
        int[] q = p.clone();
        q[j] = sizes.charAt(j) - '0';
        mix(found, sizes, p, j + 1);
        mix(found, sizes, q, j + 1);
    }

    private void permute(TreeSet<int[]> found, String left, int[] p) {
        if (left.isEmpty()) {
            found.add(p);
        }
        for (int i = 0; i < left.length(); i++) {
            int[] q = Arrays.copyOf(p, p.length + 1);
            q[p.length] = left.charAt(i) - '0';
            permute(found, left.substring(0, i) + left.substring(i + 1), q);
        }
    }

    public int about(int what) {
        argument(in(what, 0, 6));
        return new int[] {d, kind, vertices.size(), now.rows.size(), now.atoms.size(), now.steps, now.drops}[what];
    }

    private boolean isVertex(int i) {
        return in(i, 0, vertices.size() - 1);
    }

    public int vertex(int i, int j) {
        index(isVertex(i) && in(j, 0, d - 1));
        return vertices.get(i)[j];
    }

    public int row(int k, int j) {
        index(in(k, 0, now.rows.size() - 1) && in(j, 0, d));
        return now.rows.get(k)[j];
    }

    public int atom(int i, int what) {
        index(in(i, 0, now.atoms.size() - 1));
        argument(in(what, 0, 1));
        return now.atoms.get(i)[what];
    }

    public int find(int a, int b, int c, int e) {
        int[] p = {a, b, c, e};
        for (int i = 0; i < vertices.size(); i++) {
            if (Arrays.equals(Arrays.copyOf(vertices.get(i), 4), p)) {
                return i;
            }
        }
        return NONE;
    }

    private long[] x(Situation s) {
        long[] sum = new long[d];
        for (int[] a : s.atoms) {
            for (int j = 0; j < d; j++) {
                sum[j] += (long) a[1] * vertices.get(a[0])[j];
            }
        }
        return sum;
    }

    /** The residuals at a point that is scale times the mean point. */
    private long[] residuals(Situation s, long[] point, long scale) {
        long[] r = new long[s.rows.size()];
        for (int k = 0; k < r.length; k++) {
            r[k] = -scale * s.rows.get(k)[d];
            for (int j = 0; j < d; j++) {
                r[k] += point[j] * s.rows.get(k)[j];
            }
        }
        return r;
    }

    private static BigInteger squares(long[] r) {
        BigInteger sum = BigInteger.ZERO;
        for (long v : r) {
            sum = sum.add(BigInteger.valueOf(v).pow(2));
        }
        return sum;
    }

    private long[] slopes(Situation s) {
        long[] r = residuals(s, x(s), 100);
        long[] g = new long[d];
        for (int j = 0; j < d; j++) {
            for (int k = 0; k < r.length; k++) {
                g[j] += 2 * r[k] * s.rows.get(k)[j];
            }
        }
        return g;
    }

    private long slopeAt(int v, long[] g) {
        long sum = 0;
        for (int j = 0; j < d; j++) {
            sum += vertices.get(v)[j] * g[j];
        }
        return sum;
    }

    private int lowest(long[] g) {
        int found = 0;
        for (int v = 0; v < vertices.size(); v++) {
            if (slopeAt(v, g) < slopeAt(found, g)) {
                found = v;
            }
        }
        return found;
    }

    private int worstOf(Situation s) {
        long[] g = slopes(s);
        int found = 0;
        for (int i = 0; i < s.atoms.size(); i++) {
            if (slopeAt(s.atoms.get(i)[0], g) > slopeAt(s.atoms.get(found)[0], g)) {
                found = i;
            }
        }
        return found;
    }

    private long gapIn(Situation s) {
        long[] g = slopes(s);
        long[] p = x(s);
        long sum = -100 * slopeAt(lowest(g), g);
        for (int j = 0; j < d; j++) {
            sum += p[j] * g[j];
        }
        return sum;
    }

    private boolean possible(Situation s, int stepKind) {
        return stepKind != 1 || s.atoms.size() >= 2;
    }

    /** Tries every t: the point is scale times X plus t times the move, all times 1 / scale. */
    private int bestT(Situation s, long[] move, int scale, int high) {
        long[] p = x(s);
        int found = 0;
        BigInteger smallest = null;
        for (int t = 0; t <= high; t++) {
            long[] q = new long[d];
            for (int j = 0; j < d; j++) {
                q[j] = scale * p[j] + t * move[j];
            }
            BigInteger here = squares(residuals(s, q, 100L * scale));
            if (smallest == null || here.compareTo(smallest) < 0) {
                smallest = here;
                found = t;
            }
        }
        return found;
    }

    private void multiply(List<int[]> atoms, int upper, int lower, int sum) {
        List<int[]> order = new ArrayList<>();
        int missing = sum;
        for (int[] a : atoms) {
            int product = a[1] * upper;
            a[1] = product / lower;
            missing -= a[1];
            order.add(new int[] {product - a[1] * lower, order.size()});
        }
        order.sort(Comparator.comparingInt((int[] o) -> -o[0]));
        for (int i = 0; i < missing; i++) {
            atoms.get(order.get(i)[1])[1]++;
        }
    }

    private void give(Situation s, int v, int units) {
        for (int[] a : s.atoms) {
            if (a[0] == v) {
                a[1] += units;
                return;
            }
        }
        if (units > 0) {
            s.atoms.add(new int[] {v, units});
        }
    }

    private int stepIn(Situation s, int stepKind) {
        int best = lowest(slopes(s));
        int[] bad = s.atoms.get(worstOf(s));
        int w = bad[1];
        long[] p = x(s);
        long[] move = new long[d];
        for (int j = 0; j < d; j++) {
            long to = vertices.get(best)[j];
            long from = vertices.get(bad[0])[j];
            move[j] = stepKind == 0 ? 100 * to - p[j] : stepKind == 1 ? p[j] - 100 * from : to - from;
        }
        int t;
        if (stepKind == 0) {
            t = bestT(s, move, 100, 100);
            multiply(s.atoms, 100 - t, 100, 100 - t);
            give(s, best, t);
        } else if (stepKind == 1) {
            t = bestT(s, move, 100 - w, w);
            List<int[]> others = new ArrayList<>(s.atoms);
            others.remove(bad);
            multiply(others, 100 - w + t, 100 - w, 100 - w + t);
            bad[1] -= t;
        } else {
            t = bestT(s, move, 1, w);
            bad[1] -= t;
            give(s, best, t);
        }
        s.steps++;
        int before = s.atoms.size();
        s.atoms.removeIf(a -> a[1] == 0);
        s.drops += before - s.atoms.size();
        return t;
    }

    private void moveIn(Situation s, int i, int v, int units) {
        s.atoms.get(i)[1] -= units;
        give(s, v, units);
        s.atoms.removeIf(a -> a[1] == 0);
    }

    private void resetIn(Situation s, int v) {
        s.atoms.clear();
        s.atoms.add(new int[] {v, 100});
        s.steps = 0;
        s.drops = 0;
    }

    private void act() {
        past.add(now.copy());
        if (past.size() > 14) {
            past.remove(0);
        }
    }

    public int step(int stepKind) {
        argument(in(stepKind, 0, 2));
        state(possible(now, stepKind));
        act();
        return stepIn(now, stepKind);
    }

    public int run(int stepKind, int n) {
        argument(in(stepKind, 0, 2) && in(n, 1, 50));
        act();
        for (int made = 0; made < n; made++) {
            if (gapIn(now) == 0 || !possible(now, stepKind)) {
                return made;
            }
            if (stepIn(now, stepKind) == 0) {
                return made + 1;
            }
        }
        return n;
    }

    public int transfer(int i, int v, int units) {
        index(in(i, 0, now.atoms.size() - 1) && isVertex(v));
        argument(in(units, 0, now.atoms.get(i)[1]));
        act();
        moveIn(now, i, v, units);
        return now.atoms.size();
    }

    public int reset(int v) {
        index(isVertex(v));
        act();
        int before = now.atoms.size();
        resetIn(now, v);
        return before;
    }

    public int setRow(int k, int j, int v) {
        index(in(k, 0, now.rows.size() - 1) && in(j, 0, d));
        argument(j == d ? in(v, -99, 99) : in(v, -9, 9));
        act();
        int before = now.rows.get(k)[j];
        now.rows.get(k)[j] = v;
        return before;
    }

    public int undo() {
        state(!past.isEmpty());
        now = past.remove(past.size() - 1);
        return past.size();
    }

    public int point(int j) {
        index(in(j, 0, d - 1));
        return (int) x(now)[j];
    }

    public int residual(int k) {
        index(in(k, 0, now.rows.size() - 1));
        return (int) residuals(now, x(now), 100)[k];
    }

    public long slope(int j, boolean ofVertex) {
        index(ofVertex ? isVertex(j) : in(j, 0, d - 1));
        return ofVertex ? slopeAt(j, slopes(now)) : slopes(now)[j];
    }

    public long value() {
        return squares(residuals(now, x(now), 100)).longValueExact();
    }

    public long gap() {
        return gapIn(now);
    }

    public int best() {
        return lowest(slopes(now));
    }

    public int worst() {
        return worstOf(now);
    }

    public int face() {
        long[] g = slopes(now);
        int set = 0;
        for (int v = 0; v < vertices.size(); v++) {
            if (slopeAt(v, g) == slopeAt(lowest(g), g)) {
                set += 1 << v;
            }
        }
        return set;
    }

    public int oracle(int a, int b, int c, int e) {
        long[] g = {a, b, c, e};
        for (long v : g) {
            argument(in(v, -999, 999));
        }
        return lowest(g);
    }

    private long[] aloneAt(int v) {
        long[] p = new long[d];
        for (int j = 0; j < d; j++) {
            p[j] = vertices.get(v)[j];
        }
        return residuals(now, p, 1);
    }

    public int bestAlone() {
        int found = 0;
        for (int v = 0; v < vertices.size(); v++) {
            if (squares(aloneAt(v)).compareTo(squares(aloneAt(found))) < 0) {
                found = v;
            }
        }
        return found;
    }

    public long search(int v, int w, boolean upper) {
        index(isVertex(v) && isVertex(w));
        long[] from = aloneAt(v);
        long[] to = aloneAt(w);
        long top = 0;
        long bottom = 0;
        for (int k = 0; k < from.length; k++) {
            top += from[k] * (from[k] - to[k]);
            bottom += (from[k] - to[k]) * (from[k] - to[k]);
        }
        if (bottom == 0 || top <= 0) {
            return upper ? 0 : 1;
        }
        if (top >= bottom) {
            return 1;
        }
        long divisor = BigInteger.valueOf(top).gcd(BigInteger.valueOf(bottom)).longValueExact();
        return (upper ? top : bottom) / divisor;
    }

    public long preview(int stepKind, int what) {
        argument(in(stepKind, 0, 2) && in(what, 0, 3));
        Situation s = now.copy();
        if (!possible(s, stepKind)) {
            return NONE;
        }
        int t = stepIn(s, stepKind);
        return what == 0 ? t
            : what == 1 ? squares(residuals(s, x(s), 100)).longValueExact()
            : what == 2 ? gapIn(s) : s.atoms.size();
    }

    public int stepsUntil(int stepKind, long limit) {
        argument(in(stepKind, 0, 2) && limit >= 0);
        Situation s = now.copy();
        for (int n = 0; n <= 50; n++) {
            if (gapIn(s) <= limit) {
                return n;
            }
            if (!possible(s, stepKind)) {
                return NONE;
            }
            stepIn(s, stepKind);
        }
        return NONE;
    }

    public int runScript(int n, long script) {
        argument(in(n, 1, 4) && script >= 0 && Long.toString(script).length() <= 4 * n);
        String all = String.format("%0" + 4 * n + "d", script);
        Situation s = now.copy();
        for (int i = 0; i < n; i++) {
            if (!command(s, all.substring(4 * i, 4 * i + 4))) {
                return i;
            }
        }
        return NONE;
    }

    private boolean command(Situation s, String c) {
        int a = c.charAt(1) - '0';
        int b = Integer.parseInt(c.substring(2));
        boolean hasAtom = a < s.atoms.size();
        if (c.matches("1[012](0[1-9]|[1-4].|50)")) {
            for (int i = 0; i < b; i++) {
                if (!possible(s, a)) {
                    return false;
                }
                stepIn(s, a);
            }
            return true;
        }
        if (c.matches("20..") && isVertex(b)) {
            resetIn(s, b);
            return true;
        }
        if (c.matches("3...") && hasAtom && isVertex(b)) {
            moveIn(s, a, b, 1);
            return true;
        }
        return c.matches("40..") && s.atoms.size() == b
            || c.matches("50..") && lowest(slopes(s)) == b
            || c.matches("6...") && hasAtom && s.atoms.get(a)[1] >= b
            || c.equals("7000") && gapIn(s) == 0
            || c.matches("80..") && s.drops == b;
    }

    public long simulate(long seed, int m) {
        argument(in(m, 1, 50));
        Situation s = now.copy();
        long y = seed;
        for (int i = 0; i < m; i++) {
            y = y * 6364136223846793005L + 1442695040888963407L;
            int r = (int) (y >>> 33);
            if (r % 4 < 3) {
                if (possible(s, r % 4)) {
                    stepIn(s, r % 4);
                }
            } else {
                int from = r / 4 % s.atoms.size();
                moveIn(s, from, r / 4096 % vertices.size(), r / 128 % (s.atoms.get(from)[1] + 1));
            }
        }
        return gapIn(s);
    }

    public int save(int slot) {
        index(in(slot, 0, 1));
        slots[slot] = now.copy();
        return now.atoms.size();
    }

    public int restore(int slot) {
        index(in(slot, 0, 1));
        state(slots[slot] != null);
        now = slots[slot].copy();
        past.clear();
        return now.atoms.size();
    }
}
