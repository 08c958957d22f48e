import java.math.BigInteger;
import java.util.ArrayList;
import java.util.Arrays;
import java.util.Comparator;
import java.util.List;

/**
 * The document once more, written another way: nothing is remembered of a leaf but the list of those who went through it,
 * and what is tried is tried one by one.
 */
final class Model {
    static final int NONE = -1, UNKNOWN = -1000000001, OUTSIDE = -1000000002, NOT = -1000000003, FULL = -1000000004;

    private static final class Waiter {
        int s, c, p, v, k, r, a;

        Waiter copy() {
            Waiter o = new Waiter();
            o.s = s; o.c = c; o.p = p; o.v = v; o.k = k; o.r = r; o.a = a;
            return o;
        }
    }

    private static final class Scene {
        int[] h = {2, 2}, b = {3, 3};
        List<Waiter> ws = new ArrayList<>();
        boolean window = false;
        int noise = 9;

        Scene copy() {
            Scene o = new Scene();
            o.h = h.clone();
            o.b = b.clone();
            for (Waiter w : ws) {
                o.ws.add(w.copy());
            }
            o.window = window;
            o.noise = noise;
            return o;
        }
    }

    private static final class Went {
        int w, side, leaf, t, u, kind, waited;
        boolean kicked, lost;
        int openTill, backTill;
    }

    private final StringBuilder text = new StringBuilder();
    private Scene now = new Scene();
    private int faultAt = NONE;
    private final List<int[]> book = new ArrayList<>();
    private BigInteger seed = BigInteger.ZERO;
    private final Scene[] images = new Scene[2];
    private final BigInteger[] seeds = new BigInteger[2];

    // ---- reading

    private static final class Fault extends RuntimeException {
        private static final long serialVersionUID = 1L;
        final int number, place;

        Fault(int number, int place) {
            this.number = number;
            this.place = place;
        }
    }

    /** Tokens: {kind, place, figures, value}; kind 0 is the end, 1 a number, else the letter. */
    private static List<long[]> tokens(String s) {
        List<long[]> out = new ArrayList<>();
        int i = 0;
        while (i < s.length()) {
            char c = s.charAt(i);
            if (c == 32) {
                i++;
            } else if (c >= '0' && c <= '9') {
                int j = i;
                while (j < s.length() && s.charAt(j) >= '0' && s.charAt(j) <= '9') {
                    j++;
                }
                out.add(new long[] {1, i, j - i, j - i > 3 ? -1 : Long.parseLong(s.substring(i, j))});
                i = j;
            } else {
                out.add(new long[] {c < 2 ? 300 + c : c, i, 0, 0});
                i++;
            }
        }
        out.add(new long[] {0, s.length(), 0, 0});
        return out;
    }

    private static int[][] boundsOf(long word) {
        switch ((int) word) {
            case 'l': return new int[][] {{0, 1}, {1, 9}, {0, 9}};
            case 'w': return new int[][] {{0, 1}, {0, 999}, {1, 30}, {0, 99}, {1, 9}, {0, 2}, {0, 1}};
            case 'g': return new int[][] {{0, 1}};
            case 'n': return new int[][] {{0, 9}};
            default: return null;
        }
    }

    private static Scene parse(String s) {
        Scene out = new Scene();
        List<long[]> ts = tokens(s);
        int[] seen = new int[256];
        boolean[] leaf = new boolean[2];
        int i = 0;
        while (ts.get(i)[0] != 0) {
            long word = ts.get(i)[0];
            int[][] bounds = boundsOf(word);
            if (bounds == null) {
                throw new Fault(1, (int) ts.get(i)[1]);
            }
            seen[(int) word]++;
            int limit = word == 'w' ? 6 : word == 'l' ? 1000 : 1;
            if (seen[(int) word] > limit) {
                throw new Fault(3, (int) ts.get(i)[1]);
            }
            i++;
            int[] values = new int[bounds.length];
            for (int j = 0; j < bounds.length; j++, i++) {
                long[] t = ts.get(i);
                if (t[0] != 1) {
                    throw new Fault(1, (int) t[1]);
                }
                if (t[2] > 3 || t[3] < bounds[j][0] || t[3] > bounds[j][1]) {
                    throw new Fault(2, (int) t[1]);
                }
                values[j] = (int) t[3];
                if (word == 'l' && j == 0) {
                    if (leaf[values[0]]) {
                        throw new Fault(4, (int) t[1]);
                    }
                    leaf[values[0]] = true;
                }
            }
            if (ts.get(i)[0] != ';') {
                throw new Fault(1, (int) ts.get(i)[1]);
            }
            i++;
            put(out, word, values);
        }
        return out;
    }

    private static void put(Scene out, long word, int[] v) {
        if (word == 'l') {
            out.h[v[0]] = v[1];
            out.b[v[0]] = v[2];
        } else if (word == 'g') {
            out.window = v[0] == 1;
        } else if (word == 'n') {
            out.noise = v[0];
        } else {
            Waiter w = new Waiter();
            w.s = v[0]; w.c = v[1]; w.p = v[2]; w.v = v[3]; w.k = v[4]; w.r = v[5]; w.a = v[6];
            out.ws.add(w);
        }
    }

    // ---- the evening

    /** From when till when a leaf is busy for a side, by those who went; null: there was none. */
    private static int[] busy(List<Went> past, int leaf, int side) {
        int[] span = null;
        for (Went g : past) {
            if (g.leaf == leaf && g.side == side) {
                if (span == null || span[1] <= g.t) {
                    span = new int[] {g.t, g.u};
                } else {
                    span = new int[] {Math.min(span[0], g.t), Math.max(span[1], g.u)};
                }
            }
        }
        return span;
    }

    private static boolean isBusy(List<Went> past, int leaf, int side, int t) {
        int[] span = busy(past, leaf, side);
        return span != null && span[0] <= t && t < span[1];
    }

    /** 0 shut, 2 open, 3 back. */
    private static int swing(List<Went> past, int leaf, int t) {
        Went last = null;
        for (Went g : past) {
            if (g.leaf == leaf && g.kicked) {
                last = g;
            }
        }
        if (last == null || t < last.t || t >= last.backTill) {
            return 0;
        }
        return t < last.openTill ? 2 : 3;
    }

    private static List<Went> evening(Scene s) {
        List<Integer> queue = new ArrayList<>();
        for (int w = 0; w < s.ws.size(); w++) {
            queue.add(w);
        }
        queue.sort(Comparator.comparingInt((Integer w) -> s.ws.get(w).c).thenComparingInt(w -> w));
        List<Went> past = new ArrayList<>();
        for (int n : queue) {
            past.add(passOf(s, past, n));
        }
        return past;
    }

    private static Went passOf(Scene s, List<Went> past, int n) {
        Waiter w = s.ws.get(n);
        Went g = new Went();
        g.w = n;
        g.side = w.s;
        int against = 1 - w.s;
        g.leaf = w.r == 0 ? w.s : 1 - w.s;
        if (w.r == 2 && (!isBusy(past, w.s, against, w.c) || isBusy(past, 1 - w.s, against, w.c))) {
            g.leaf = w.s;
        }
        g.t = w.c;
        boolean waits = false;
        boolean calls = false;
        if (isBusy(past, g.leaf, against, w.c)) {
            int near = 0;
            for (int o = 0; o < s.ws.size(); o++) {
                int c = s.ws.get(o).c;
                if (o != n && c >= w.c - 20 && c <= w.c - 1) {
                    near++;
                }
            }
            if (s.window) {
                waits = true;
            } else if (w.a == 1 && near < s.noise) {
                calls = true;
            } else {
                g.u = g.t + 20;
                g.kind = 6;
                g.lost = true;
                int[] span = busy(past, g.leaf, against);
                Went met = null;
                for (Went o : past) {
                    if (o.leaf == g.leaf && o.side == against && o.t >= span[0] && o.t < span[1]) {
                        met = o;
                    }
                }
                met.kind = 6;
                met.lost = true;
                return g;
            }
            while (isBusy(past, g.leaf, against, g.t)) {
                g.t++;
                g.waited++;
            }
        }
        int does = swing(past, g.leaf, g.t);
        boolean follows = isBusy(past, g.leaf, w.s, g.t) || does == 2;
        boolean struck = !follows && does == 3;
        g.kicked = !follows;
        g.openTill = g.t + w.k * s.h[g.leaf];
        g.backTill = g.openTill + s.b[g.leaf];
        g.u = g.t + w.p;
        g.lost = struck;
        boolean[] fits = {true, follows, g.leaf != w.s && g.kicked, calls, waits, struck};
        for (int k = 0; k < fits.length; k++) {
            if (fits[k]) {
                g.kind = k;
            }
        }
        return g;
    }

    private static int seconds(List<Went> all) {
        return all.stream().mapToInt(g -> g.waited).sum();
    }

    private static int lost(Scene s, List<Went> all) {
        return all.stream().filter(g -> g.lost).mapToInt(g -> s.ws.get(g.w).v).sum();
    }

    private static int cost(Scene s) {
        List<Went> all = evening(s);
        return lost(s, all) * 10 + seconds(all);
    }

    private static Went find(List<Went> all, int w) {
        return all.stream().filter(g -> g.w == w).findFirst().get();
    }

    // ---- calls

    int call(String name, int... a) {
        switch (name) {
            case "feed": return feed(a[0]);
            case "house": return house();
            case "fault": return faultAt;
            case "told": return told(a[0]);
            case "leaf": return leaf(a[0], a[1]);
            case "waiter": return waiter(a[0], a[1]);
            case "come": case "rule": case "kick": return set(name, a[0], a[1]);
            case "glass": return glass(a[0] != 0);
            case "noise": return noise(a[0]);
            case "drift": return drift(a[0]);
            case "pass": return pass(a[0], a[1]);
            case "leafAt": return leafAt(a[0], a[1]);
            case "write": return write(a[0], a[1]);
            case "tear": return tear();
            case "judge": return judge();
            case "seed": return seed(a[0]);
            case "keep": return keep(a[0]);
            case "goBack": return goBack(a[0]);
            default: return tried(name, a);
        }
    }

    private int tried(String name, int... a) {
        switch (name) {
            case "all": return all(a[0]);
            case "best": return best(a[0]);
            case "bestKick": return bestKick(a[0], a[1]);
            case "change": return change(a[0], a[1], a[2]);
            case "worth": return worth(a[0], a[1]);
            case "apart": return apart(a[0], a[1]);
            case "order": return order(a[0], a[1]);
            case "rests": return rests(a[0], a[1]);
            case "stack": return stack(a[0]);
            case "until": return until(a[0], a[1]);
            case "unheard": return unheard(a[0], a[1], a[2]);
            case "learns": return learns(a[0], a[1]);
            default: throw new IllegalStateException(name);
        }
    }

    private static boolean out(int v, int least, int most) {
        return v < least || v > most;
    }

    private boolean nobody(int w) {
        return out(w, 0, now.ws.size() - 1);
    }

    private int feed(int letter) {
        if (out(letter, 0, 255)) {
            return OUTSIDE;
        }
        if (text.length() == 250) {
            return FULL;
        }
        return text.append((char) letter).length();
    }

    private int house() {
        String s = text.toString();
        text.setLength(0);
        try {
            now = parse(s);
        } catch (Fault f) {
            faultAt = f.place;
            return -10 - f.number;
        }
        faultAt = NONE;
        book.clear();
        Arrays.fill(images, null);
        return now.ws.size();
    }

    private int told(int what) {
        if (out(what, 0, 10)) {
            return OUTSIDE;
        }
        List<Went> all = evening(now);
        int[] answers = {now.ws.size(), text.length(), now.window ? 1 : 0, now.noise, book.size(), seconds(all),
            lost(now, all), lost(now, all) * 10 + seconds(all), (int) all.stream().filter(g -> g.kind == 6).count(),
            (int) all.stream().filter(g -> g.kind == 5).count(), all.stream().mapToInt(g -> g.u).max().orElse(0)};
        return answers[what];
    }

    private int leaf(int l, int what) {
        if (out(l, 0, 1)) {
            return UNKNOWN;
        }
        if (out(what, 0, 3)) {
            return OUTSIDE;
        }
        List<Went> all = evening(now);
        int[] answers = {now.h[l], now.b[l], (int) all.stream().filter(g -> g.leaf == l).count(),
            (int) all.stream().filter(g -> g.leaf == l && g.kicked).count()};
        return answers[what];
    }

    private int waiter(int w, int what) {
        if (nobody(w)) {
            return UNKNOWN;
        }
        if (out(what, 0, 6)) {
            return OUTSIDE;
        }
        Waiter o = now.ws.get(w);
        return new int[] {o.s, o.c, o.p, o.v, o.k, o.r, o.a}[what];
    }

    private int set(String name, int w, int v) {
        if (nobody(w)) {
            return UNKNOWN;
        }
        boolean comes = name.equals("come");
        boolean rules = name.equals("rule");
        if (comes ? out(v, 0, 999) : rules ? out(v, 0, 2) : out(v, 1, 9)) {
            return OUTSIDE;
        }
        Waiter o = now.ws.get(w);
        int was = comes ? o.c : rules ? o.r : o.k;
        if (comes) {
            o.c = v;
        } else if (rules) {
            o.r = v;
        } else {
            o.k = v;
        }
        return was;
    }

    private int glass(boolean clear) {
        int was = now.window ? 1 : 0;
        now.window = clear;
        return was;
    }

    private int noise(int v) {
        if (out(v, 0, 9)) {
            return OUTSIDE;
        }
        int was = now.noise;
        now.noise = v;
        return was;
    }

    private int draw(int n) {
        seed = seed.multiply(BigInteger.valueOf(1103515245)).add(BigInteger.valueOf(12345)).mod(BigInteger.ONE.shiftLeft(31));
        return seed.divide(BigInteger.valueOf(65536)).mod(BigInteger.valueOf(n)).intValue();
    }

    private int drift(int n) {
        if (out(n, 1, 99)) {
            return OUTSIDE;
        }
        if (now.ws.isEmpty()) {
            return NOT;
        }
        int sum = 0;
        for (int i = 0; i < n; i++) {
            for (Waiter w : now.ws) {
                w.c = draw(200);
            }
            if (draw(4) == 0) {
                now.window = !now.window;
            }
            sum += cost(now);
        }
        return sum;
    }

    private int pass(int w, int what) {
        if (nobody(w)) {
            return UNKNOWN;
        }
        if (out(what, 0, 5)) {
            return OUTSIDE;
        }
        Went g = find(evening(now), w);
        return new int[] {g.kind, g.t, g.u, g.leaf, g.waited, g.lost ? 1 : 0}[what];
    }

    private int leafAt(int l, int t) {
        if (out(l, 0, 1)) {
            return UNKNOWN;
        }
        if (out(t, 0, 9999)) {
            return OUTSIDE;
        }
        List<Went> all = evening(now);
        return isBusy(all, l, 0, t) || isBusy(all, l, 1, t) ? 1 : swing(all, l, t);
    }

    private int all(int r) {
        if (out(r, 0, 2)) {
            return OUTSIDE;
        }
        Scene s = now.copy();
        s.ws.forEach(w -> w.r = r);
        return cost(s);
    }

    private int best(int w) {
        if (w != NONE && nobody(w)) {
            return UNKNOWN;
        }
        int[] found = {Integer.MAX_VALUE, 0, 0, 0, 0, 0, 0};
        tryRules(now.copy(), 0, found);
        return found[w + 1];
    }

    private static void tryRules(Scene s, int from, int[] found) {
        if (from == s.ws.size()) {
            int c = cost(s);
            if (c < found[0]) {
                found[0] = c;
                for (int w = 0; w < s.ws.size(); w++) {
                    found[w + 1] = s.ws.get(w).r;
                }
            }
            return;
        }
        for (int r = 0; r < 3; r++) {
            s.ws.get(from).r = r;
            tryRules(s, from + 1, found);
        }
    }

    private int bestKick(int w, int what) {
        if (nobody(w)) {
            return UNKNOWN;
        }
        if (out(what, 0, 1)) {
            return OUTSIDE;
        }
        int[] costs = new int[9];
        for (int k = 1; k <= 9; k++) {
            Scene s = now.copy();
            s.ws.get(w).k = k;
            costs[k - 1] = cost(s);
        }
        return leastOf(costs, 1, what);
    }

    /** The first place of the least (with what is added to it), or the least itself. */
    private static int leastOf(int[] costs, int add, int what) {
        int least = Arrays.stream(costs).min().getAsInt();
        for (int i = 0; what == 0 && i < costs.length; i++) {
            if (costs[i] == least) {
                return i + add;
            }
        }
        return least;
    }

    private int change(int a, int b, int what) {
        if (out(a, 0, 2) || out(b, 0, 2) || out(what, 0, 1)) {
            return OUTSIDE;
        }
        int[] costs = new int[1001];
        Scene s = now.copy();
        for (int t = 0; t <= 1000; t++) {
            for (Waiter w : s.ws) {
                w.r = w.c < t ? a : b;
            }
            costs[t] = cost(s);
        }
        return leastOf(costs, 0, what);
    }

    private int worth(int what, int n) {
        if (out(what, 0, 1) || out(n, 0, 999)) {
            return OUTSIDE;
        }
        Scene without = now.copy();
        Scene with = now.copy();
        if (what == 0) {
            without.window = false;
            with.window = true;
        } else {
            with.noise = 9;
        }
        return n * (cost(without) - cost(with));
    }

    private int apart(int side, int g) {
        if (out(side, 0, 1) || out(g, 0, 50)) {
            return OUTSIDE;
        }
        Scene s = now.copy();
        int first = s.ws.stream().filter(w -> w.s == side).mapToInt(w -> w.c).min().orElse(0);
        int i = 0;
        for (Waiter w : s.ws) {
            if (w.s == side) {
                w.c = first + g * i++;
            }
        }
        return cost(s);
    }

    private int order(int side, int i) {
        if (out(side, 0, 1)) {
            return OUTSIDE;
        }
        int[] cs = now.ws.stream().filter(w -> w.s == side).mapToInt(w -> w.c).sorted().toArray();
        List<List<Integer>> best = new ArrayList<>();
        int[] least = {Integer.MAX_VALUE};
        tryOrders(now.copy(), side, cs, new ArrayList<>(), best, least);
        if (i == NONE) {
            return least[0];
        }
        return out(i, 0, cs.length - 1) ? NONE : best.get(0).get(i);
    }

    private static void tryOrders(Scene s, int side, int[] cs, List<Integer> row, List<List<Integer>> best, int[] least) {
        if (row.size() == cs.length) {
            for (int j = 0; j < cs.length; j++) {
                s.ws.get(row.get(j)).c = cs[j];
            }
            int c = cost(s);
            if (c < least[0]) {
                least[0] = c;
                best.clear();
                best.add(new ArrayList<>(row));
            }
            return;
        }
        for (int w = 0; w < s.ws.size(); w++) {
            if (s.ws.get(w).s == side && !row.contains(w)) {
                row.add(w);
                tryOrders(s, side, cs, row, best, least);
                row.remove(row.size() - 1);
            }
        }
    }

    private int rests(int a, int b) {
        if (nobody(a) || nobody(b) || a == b) {
            return UNKNOWN;
        }
        Waiter x = now.ws.get(a);
        Waiter y = now.ws.get(b);
        if (x.s == y.s) {
            return NOT;
        }
        int[][] xLoses = {{x.v + 20, 0}, {y.p, 9}};
        int[][] yLoses = {{y.v + 20, x.p}, {0, 9}};
        int set = 0;
        for (int i = 0; i < 4; i++) {
            int p = i / 2;
            int q = i % 2;
            if (xLoses[1 - p][q] >= xLoses[p][q] && yLoses[p][1 - q] >= yLoses[p][q]) {
                set += 1 << i;
            }
        }
        return set;
    }

    private int stack(int q) {
        if (out(q, 0, 100)) {
            return OUTSIDE;
        }
        int[] loss = new int[9];
        for (int h = 1; h <= 9; h++) {
            loss[h - 1] = -h * (100 - q * h < 0 ? 0 : 100 - q * h);
        }
        return leastOf(loss, 1, 0);
    }

    private int until(int q, int x) {
        if (out(q, 0, 1000) || out(x, 0, 100)) {
            return OUTSIDE;
        }
        BigInteger odds = BigInteger.valueOf(1000000000);
        for (int n = 0; n <= 9999; n++) {
            if (odds.multiply(BigInteger.valueOf(100)).compareTo(BigInteger.valueOf(x * 1000000000L)) <= 0) {
                return n;
            }
            odds = odds.multiply(BigInteger.valueOf(1000 - q)).divide(BigInteger.valueOf(1000));
        }
        return NONE;
    }

    private int unheard(int q, int r, int part) {
        if (out(q, 0, 100) || out(r, 0, 100) || out(part, 0, 1)) {
            return OUTSIDE;
        }
        BigInteger above = BigInteger.valueOf(q * 100L);
        BigInteger below = above.add(BigInteger.valueOf((100L - q) * r));
        if (below.signum() == 0) {
            return NOT;
        }
        return (part == 0 ? above : below).divide(above.gcd(below)).intValue();
    }

    private int learns(int w, int n) {
        if (nobody(w)) {
            return UNKNOWN;
        }
        if (out(n, 1, 9)) {
            return OUTSIDE;
        }
        Scene s = now.copy();
        s.ws.get(w).r = 1;
        int kind = find(evening(s), w).kind;
        int each = kind == 6 ? 2 : kind == 5 ? 1 : 0;
        for (int evenings = 1; evenings <= 9; evenings++) {
            if (each * evenings >= n) {
                return evenings;
            }
        }
        return NONE;
    }

    private int write(int w, int kind) {
        if (nobody(w)) {
            return UNKNOWN;
        }
        if (out(kind, 0, 6)) {
            return OUTSIDE;
        }
        if (book.size() == 20) {
            return FULL;
        }
        book.add(new int[] {w, kind});
        return book.size();
    }

    private int tear() {
        int had = book.size();
        book.clear();
        return had;
    }

    private int judge() {
        List<Went> all = evening(now);
        for (int i = 0; i < book.size(); i++) {
            if (find(all, book.get(i)[0]).kind != book.get(i)[1]) {
                return i;
            }
        }
        return NONE;
    }

    private int seed(int v) {
        if (v < 0) {
            return OUTSIDE;
        }
        int was = seed.intValueExact();
        seed = BigInteger.valueOf(v);
        return was;
    }

    private int keep(int i) {
        if (out(i, 0, 1)) {
            return UNKNOWN;
        }
        images[i] = now.copy();
        seeds[i] = seed;
        return 1;
    }

    private int goBack(int i) {
        if (out(i, 0, 1)) {
            return UNKNOWN;
        }
        if (images[i] == null) {
            return NOT;
        }
        now = images[i].copy();
        seed = seeds[i];
        return 1;
    }
}
