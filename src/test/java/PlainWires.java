import java.util.ArrayList;
import java.util.List;
import java.util.Map;
import java.util.NoSuchElementException;
import java.util.TreeMap;
import java.util.TreeSet;

/**
 * A second writing of the document, without a thought for room or speed, for SecondReadingTest to compare with.
 * It shares no code with StampedWires and is written in another way wherever there is one.
 */
final class PlainWires {
    static final class P {
        int kind, a, b, n, c, d, low, high, delay, rise = 1, width, period;
        double guess, x1, x2, d1, bigB;

        P copy() {
            P p = new P();
            p.kind = kind; p.a = a; p.b = b; p.n = n; p.c = c; p.d = d;
            p.low = low; p.high = high; p.delay = delay; p.rise = rise; p.width = width; p.period = period;
            p.guess = guess; p.x1 = x1; p.x2 = x2; p.d1 = d1; p.bigB = bigB;
            return p;
        }

        boolean isWave() { return "346".indexOf('0' + kind) >= 0; }

        double wave(int t) {
            if (t < delay) return low;
            int u = period == 0 ? t - delay : (t - delay) % period;
            int difference = high - low;
            if (u < rise) { int product = difference * u; return (double) low + (double) product / (double) rise; }
            if (u < rise + width) return high;
            if (u < 2 * rise + width) { int product = difference * (u - rise - width); return (double) high - (double) product / (double) rise; }
            return low;
        }

        boolean isBreak(int t) {
            int[] at = {delay, delay + rise, delay + rise + width, delay + 2 * rise + width};
            for (int b : at) {
                if (t == b) return true;
                if (period != 0 && t > b && (t - b) % period == 0) return true;
            }
            return false;
        }
    }

    static final class Failure extends Exception {
        static final long serialVersionUID = 1;
        final int kind, at;
        Failure(int kind, int at) { super(null, null, false, false); this.kind = kind; this.at = at; }
    }

    List<P> parts = new ArrayList<>();
    double[] unknowns = new double[0];
    boolean ready, fresh;
    int time, wanted = 1, h1 = 1, method = 1, tolerance = 16, failed, failedAt = -1, forcedPart = -1;
    int[] counted = new int[20];
    List<int[]> order;
    int fills;
    double[][] last;
    boolean[][] lastThere;
    double bigA;
    int longest;
    static boolean sawNaN;
    static int renewed;

    PlainWires copy() {
        PlainWires w = new PlainWires();
        for (P p : parts) w.parts.add(p.copy());
        w.unknowns = unknowns.clone();
        w.ready = ready; w.fresh = fresh; w.time = time; w.wanted = wanted; w.h1 = h1;
        w.method = method; w.tolerance = tolerance;
        w.order = order == null ? null : new ArrayList<>(order);
        w.fills = fills;
        return w;
    }

    // ---- numbering

    TreeSet<Integer> used() {
        TreeSet<Integer> s = new TreeSet<>();
        for (P p : parts) {
            s.add(p.a); s.add(p.b);
            if (p.kind == 7) { s.add(p.c); s.add(p.d); }
        }
        s.remove(0);
        return s;
    }

    int nodeIndex(int node) { return used().contains(node) ? used().headSet(node).size() : -1; }

    int partIndex(int part) {
        if (parts.get(part).kind != 2 && parts.get(part).kind != 3) return -1;
        int k = used().size();
        for (int i = 0; i < part; i++) if (parts.get(i).kind == 2 || parts.get(i).kind == 3) k++;
        return k;
    }

    int size() {
        int k = used().size();
        for (P p : parts) if (p.kind == 2 || p.kind == 3) k++;
        return k;
    }

    double voltage(double[] x, int node) { return nodeIndex(node) < 0 ? 0.0 : x[nodeIndex(node)]; }

    double across(double[] x, P p) { return voltage(x, p.a) - voltage(x, p.b); }

    double held(double[] x, int i) { return parts.get(i).kind == 2 ? x[partIndex(i)] : across(x, parts.get(i)); }

    // ---- equations

    double[][] m;      // the last column is RIGHT
    boolean[][] is;

    void put(int e, int u, double x) {
        if (e < 0 || u < 0) return;
        m[e][u] = m[e][u] + x;
        is[e][u] = true;
    }

    void right(int e, double x) { if (e >= 0) m[e][m.length] = m[e][m.length] + x; }

    void conduct(int a, int b, double g) { put(a, a, g); put(a, b, -g); put(b, a, -g); put(b, b, g); }

    void flowing(int a, int b, double j) { right(a, -j); right(b, j); }

    void stamp(int t, double scale) {
        int n = size();
        m = new double[n][n + 1];
        is = new boolean[n][n];
        for (int v = 0; v < used().size(); v++) put(v, v, 1.0 / 1048576.0);
        for (int i = 0; i < parts.size(); i++) {
            P p = parts.get(i);
            int a = nodeIndex(p.a), b = nodeIndex(p.b), own = partIndex(i);
            if (p.kind == 0) conduct(a, b, 1.0 / p.n);
            if (p.kind == 6) conduct(a, b, p.wave(t) > 0 ? p.n / 64.0 : 1.0 / 65536.0);
            if (p.kind == 1) { double c = p.n / 16.0; conduct(a, b, c * bigA); flowing(a, b, c * p.bigB); }
            if (p.kind == 2 || p.kind == 3) { put(a, own, 1); put(b, own, -1); put(own, a, 1); put(own, b, -1); }
            if (p.kind == 2) { double l = p.n / 16.0; put(own, own, -(l * bigA)); right(own, l * p.bigB); }
            if (p.kind == 3) right(own, scale * p.wave(t));
            if (p.kind == 4) flowing(a, b, scale * p.wave(t));
            if (p.kind == 5) {
                double k = p.n / 64.0, u = p.guess;
                double g = u > 0 ? 2 * k * u : 0.0;
                conduct(a, b, g);
                flowing(a, b, u > 0 ? k * u * u - g * u : 0.0);
            }
            if (p.kind == 7) {
                double gain = p.n / 256.0;
                int c = nodeIndex(p.c), d = nodeIndex(p.d);
                put(a, c, gain); put(a, d, -gain); put(b, c, -gain); put(b, d, gain);
            }
        }
        last = new double[n][];
        lastThere = new boolean[n][];
        for (int e = 0; e < n; e++) { last[e] = m[e].clone(); lastThere[e] = is[e].clone(); }
    }

    /** One go at the equations: by the order given, or by a new one if it is null; null if a kept one does not do. */
    double[] go(List<int[]> kept, List<int[]> made, int[] filled) throws Failure {
        int n = last.length;
        m = new double[n][];
        is = new boolean[n][];
        for (int e = 0; e < n; e++) { m[e] = last[e].clone(); is[e] = lastThere[e].clone(); }
        TreeSet<Integer> rows = new TreeSet<>(), columns = new TreeSet<>();
        for (int i = 0; i < n; i++) { rows.add(i); columns.add(i); }
        List<TreeMap<Integer, Double>> behind = new ArrayList<>();
        for (int k = 0; k < n; k++) {
            int[] pq = kept == null ? search(rows, columns) : kept.get(k);
            if (kept != null && !does(pq, columns)) return null;
            int p = pq[0], q = pq[1];
            made.add(pq);
            rows.remove(p);
            columns.remove(q);
            for (int e : rows) {
                if (!is[e][q]) continue;
                double f = m[e][q] / m[p][q];
                for (int j : columns) {
                    if (!is[p][j]) continue;
                    if (!is[e][j]) filled[0]++;
                    is[e][j] = true;
                    m[e][j] = m[e][j] - f * m[p][j];
                    sawNaN |= m[e][j] != m[e][j];
                }
                m[e][n] = m[e][n] - f * m[p][n];
                sawNaN |= m[e][n] != m[e][n];
            }
            TreeMap<Integer, Double> line = new TreeMap<>();
            for (int j : columns) if (is[p][j]) line.put(j, m[p][j]);
            behind.add(line);
        }
        double[] x = new double[n];
        for (int k = n - 1; k >= 0; k--) {
            int p = made.get(k)[0], q = made.get(k)[1];
            double s = m[p][n];
            for (Map.Entry<Integer, Double> j : behind.get(k).entrySet()) s = s - j.getValue() * x[j.getKey()];
            x[q] = s / m[p][q];
            sawNaN |= x[q] != x[q];
        }
        return x;
    }

    boolean does(int[] pq, TreeSet<Integer> columns) {
        if (!is[pq[0]][pq[1]]) return false;
        double greatest = 0;
        for (int j : columns) if (is[pq[0]][j]) greatest = Math.max(greatest, Math.abs(m[pq[0]][j]));
        double it = Math.abs(m[pq[0]][pq[1]]);
        return it >= Math.pow(2, -40) && it >= greatest / 4096;
    }

    int[] search(TreeSet<Integer> rows, TreeSet<Integer> columns) throws Failure {
        int[] best = null;
        long bestProduct = 0;
        for (int e : rows) {
            double greatest = 0;
            int inRow = 0;
            for (int j : columns) if (is[e][j]) { inRow++; greatest = Math.max(greatest, Math.abs(m[e][j])); }
            for (int j : columns) {
                if (!is[e][j] || Math.abs(m[e][j]) < Math.pow(2, -40) || Math.abs(m[e][j]) < greatest / 64) continue;
                int inColumn = 0;
                for (int r : rows) if (is[r][j]) inColumn++;
                long product = (long) (inRow - 1) * (inColumn - 1);
                if (best == null || product < bestProduct) { best = new int[] {e, j}; bestProduct = product; }
            }
        }
        if (best == null) throw new Failure(1, rows.first());
        return best;
    }

    double[] solved() throws Failure {
        counted[12]++;
        double[] x = null;
        if (order != null) {
            x = go(order, new ArrayList<>(), new int[1]);
            if (x == null) renewed++;
        }
        if (x == null) {
            order = null;
            List<int[]> made = new ArrayList<>();
            int[] filled = new int[1];
            x = go(null, made, filled);
            order = made;
            fills = filled[0];
            counted[13]++;
        }
        for (int j = 0; j < x.length; j++) if (Math.abs(x[j]) >= Math.pow(2, 60)) throw new Failure(3, j);
        return x;
    }

    double[] rounds(double[] from, int t, double scale) throws Failure {
        double[] x = from;
        boolean any = false;
        for (P p : parts) any |= p.kind == 5;
        for (int round = 1; ; round++) {
            stamp(t, scale);
            double[] ahead = x;
            x = solved();
            if (!any) return x;
            boolean good = true;
            for (P p : parts) {
                if (p.kind != 5) continue;
                double v = across(x, p), u = p.guess;
                if (v > u + 1) p.guess = u + 1;
                else if (v < u - 1) p.guess = u - 1;
                else { p.guess = v; continue; }
                counted[19]++;
                good = false;
            }
            int at = 0;
            for (int j = 0; j < x.length; j++) {
                good &= Math.abs(x[j] - ahead[j]) <= (1 + Math.abs(x[j])) / 65536;
                if (Math.abs(x[j] - ahead[j]) > Math.abs(x[at] - ahead[at])) at = j;
            }
            if (good) return x;
            if (round == 16) throw new Failure(2, at);
        }
    }

    // ---- rest and steps

    int rest() {
        double[] guesses = guesses();
        try {
            double[] x;
            nothing();
            try {
                x = rounds(new double[size()], 0, 1);
            } catch (Failure f) {
                if (f.kind == 1) throw f;
                counted[18]++;
                nothing();
                x = rounds(new double[size()], 0, 0.25);
                x = rounds(x, 0, 0.5);
                x = rounds(x, 0, 0.75);
                x = rounds(x, 0, 1);
            }
            unknowns = x;
            for (int i = 0; i < parts.size(); i++) { parts.get(i).x1 = held(x, i); parts.get(i).d1 = 0; }
            time = 0;
            ready = true;
            fresh = true;
            wanted = 1;
            failed = 0;
            failedAt = -1;
        } catch (Failure f) {
            guesses(guesses);
            failed = f.kind;
            failedAt = f.at;
        }
        return failed;
    }

    void nothing() { bigA = 0; for (P p : parts) { p.bigB = 0; p.guess = 0; } }

    double[] guesses() {
        double[] g = new double[parts.size()];
        for (int i = 0; i < g.length; i++) g[i] = parts.get(i).guess;
        return g;
    }

    void guesses(double[] g) { for (int i = 0; i < g.length; i++) parts.get(i).guess = g[i]; }

    boolean isBreak(int t) {
        for (P p : parts) if (p.isWave() && p.isBreak(t)) return true;
        return false;
    }

    int step() {
        if (!ready) return -1;
        int h = 1;
        int most = fresh ? 1 : wanted;
        while (h < most && !isBreak(time + h)) h++;
        while (true) {
            counted[14]++;
            double[] guesses = guesses();
            boolean refused = false;
            boolean wide = true;
            int over = -1;
            double[] x = null;
            try {
                factors(h);
                x = rounds(unknowns, time + h, 1);
            } catch (Failure f) {
                guesses(guesses);
                failed = f.kind;
                failedAt = f.at;
                if (h == 1) return 0;
                refused = true;
            }
            if (!refused && !fresh) {
                for (int i = parts.size() - 1; i >= 0; i--) {
                    P p = parts.get(i);
                    if (p.kind != 1 && p.kind != 2) continue;
                    double v = held(x, i);
                    double error = Math.abs(v - (p.x1 + (p.x1 - p.x2) / h1 * h));
                    double bound = tolerance / 1024.0 * (1 + Math.abs(v));
                    if (error > bound) over = i;
                    if (error * 4 > bound) wide = false;
                }
                refused = over >= 0 && h > 1;
                if (refused) guesses(guesses);
            }
            if (refused) { counted[16]++; h = h / 2; continue; }
            if (over >= 0) counted[17]++;
            forcedPart = over;
            taken(h, x, wide);
            return h;
        }
    }

    void factors(int h) {
        int by = fresh ? 0 : method;
        double r = (double) h / (double) h1;
        bigA = by == 0 ? 1.0 / h : by == 1 ? 2.0 / h : (1 + 2 * r) / (1 + r) / h;
        for (P p : parts) {
            if (by == 0) p.bigB = 0 - bigA * p.x1;
            if (by == 1) p.bigB = 0 - bigA * p.x1 - p.d1;
            if (by == 2) p.bigB = (0 - (1 + r) * p.x1 + r * r / (1 + r) * p.x2) / h;
        }
    }

    void taken(int h, double[] x, boolean wide) {
        unknowns = x;
        time += h;
        for (int i = 0; i < parts.size(); i++) {
            P p = parts.get(i);
            p.x2 = p.x1;
            p.x1 = held(x, i);
            p.d1 = bigA * p.x1 + p.bigB;
        }
        h1 = h;
        boolean was = fresh;
        fresh = isBreak(time);
        wanted = fresh ? 1 : !was && wide ? Math.min(64, 2 * h) : h;
        counted[15]++;
        failed = 0;
        failedAt = -1;
    }

    int go(int ticks) {
        int gone = 0;
        longest = 0;
        while (gone < ticks) {
            int h = step();
            if (h == 0) return gone;
            gone += h;
            longest = Math.max(longest, h);
        }
        return gone;
    }

    // ---- the face

    boolean isPart(int p) { return p >= 0 && p < parts.size(); }
    static boolean isNode(int v) { return v >= 0 && v <= 8; }
    static boolean in(int x, int l, int h) { return l <= x && x <= h; }

    static int bits(double x, int what) {
        sawNaN |= x != x;
        long l = Double.doubleToRawLongBits(x);
        if (what == 0) return (int) (l >>> 32);
        if (what == 1) return (int) l;
        throw new NoSuchElementException();
    }

    void gone() { order = null; last = null; lastThere = null; ready = false; }

    void told() { if (ready) { fresh = true; wanted = 1; } }

    int part(int kind, int a, int b, int n) {
        if (!in(kind, 0, 7) || !isNode(a) || !isNode(b) || a == b || !in(n, 1, 9999) || parts.size() == 16) return -1;
        P p = new P();
        p.kind = kind; p.a = a; p.b = b; p.n = n;
        parts.add(p);
        gone();
        return parts.size() - 1;
    }

    boolean value(int part, int n) {
        if (!isPart(part) || !in(n, 1, 9999)) return false;
        parts.get(part).n = n;
        told();
        return true;
    }

    boolean level(int part, int low, int high) {
        if (!isPart(part) || !parts.get(part).isWave() || !in(low, -999, 999) || !in(high, -999, 999)) return false;
        parts.get(part).low = low;
        parts.get(part).high = high;
        told();
        return true;
    }

    boolean times(int part, int delay, int rise, int width, int period) {
        if (!isPart(part) || !parts.get(part).isWave()) return false;
        if (!in(delay, 0, 9999) || !in(rise, 1, 999) || !in(width, 0, 999)) return false;
        if (period != 0 && !in(period, 2 * rise + width, 9999)) return false;
        P p = parts.get(part);
        p.delay = delay; p.rise = rise; p.width = width; p.period = period;
        told();
        return true;
    }

    boolean control(int part, int c, int d) {
        if (!isPart(part) || parts.get(part).kind != 7 || !isNode(c) || !isNode(d)) return false;
        parts.get(part).c = c;
        parts.get(part).d = d;
        gone();
        return true;
    }

    boolean method(int n) { if (!in(n, 0, 2)) return false; method = n; return true; }

    boolean tolerance(int n) { if (!in(n, 1, 1024)) return false; tolerance = n; return true; }

    int run(int ticks) { return !ready || !in(ticks, 1, 60) ? -1 : go(ticks); }

    double volts(int node) { return ready ? voltage(unknowns, node) : 0.0; }

    int volt(int node, int what) {
        if (!isNode(node)) throw new NoSuchElementException();
        return bits(volts(node), what);
    }

    int milli(int node) { return isNode(node) ? (int) (1000 * volts(node)) : Integer.MIN_VALUE; }

    double flowing(int i) {
        P p = parts.get(i);
        double v = across(unknowns, p);
        switch (p.kind) {
            case 0: return 1.0 / p.n * v;
            case 1: return p.n / 16.0 * p.d1;
            case 2: case 3: return unknowns[partIndex(i)];
            case 4: return p.wave(time);
            case 5: return v > 0 ? p.n / 64.0 * v * v : 0.0;
            case 6: return (p.wave(time) > 0 ? p.n / 64.0 : 1.0 / 65536.0) * v;
            default: return p.n / 256.0 * (voltage(unknowns, p.c) - voltage(unknowns, p.d));
        }
    }

    int flow(int part, int what) {
        if (!ready || !isPart(part)) throw new NoSuchElementException();
        return bits(flowing(part), what);
    }

    int charge(int part, int what) {
        if (!ready || !isPart(part) || !in(parts.get(part).kind, 1, 2)) throw new NoSuchElementException();
        return bits(parts.get(part).n / 16.0 * parts.get(part).x1, what);
    }

    int balance(int node, int what) {
        if (!ready || !used().contains(node)) throw new NoSuchElementException();
        double s = 1.0 / 1048576.0 * volts(node);
        for (int i = 0; i < parts.size(); i++) {
            if (parts.get(i).a == node) s += flowing(i);
            if (parts.get(i).b == node) s -= flowing(i);
        }
        return bits(s, what);
    }

    int wave(int part, int t, int what) {
        if (!isPart(part) || !parts.get(part).isWave() || !in(t, 0, 99999)) throw new NoSuchElementException();
        return bits(parts.get(part).wave(t), what);
    }

    int breaks(int t, int i) {
        if (!in(t, 0, 9999) || !in(i, 0, 20)) return -1;
        boolean any = false;
        for (P p : parts) any |= p.isWave();
        // A BREAK is at most 9999 + 3 * 999 behind 0, a PERIOD at most 9999: beyond this there is none but what repeats.
        for (int at = t; any && at < t + 230000; at++) if (isBreak(at) && i-- == 0) return at;
        return -1;
    }

    int told(int part, int what) {
        if (!isPart(part) || !in(what, 0, 12)) return Integer.MIN_VALUE;
        P p = parts.get(part);
        int[] all = {p.kind, p.a, p.b, p.n, p.low, p.high, p.delay, p.rise, p.width, p.period, p.c, p.d, partIndex(part)};
        return in(what, 4, 9) && !p.isWave() ? 0 : all[what];
    }

    int count(int what) {
        int bits = 0;
        for (int v : used()) bits += 1 << v;
        int[] all = {parts.size(), size(), bits, ready ? time : 0, ready ? 1 : 0, ready && fresh ? 1 : 0, ready ? wanted : 1,
            method, tolerance, failed, failedAt, forcedPart};
        return !in(what, 0, 19) ? -1 : what < 12 ? all[what] : counted[what];
    }

    int entry(int e, int u, int what) {
        if (last == null || !in(e, 0, last.length - 1) || !in(u, 0, last.length - 1) || !lastThere[e][u]) throw new NoSuchElementException();
        return bits(last[e][u], what);
    }

    int pivot(int k, int what) { return order == null || !in(k, 0, order.size() - 1) || !in(what, 0, 1) ? -1 : order.get(k)[what]; }

    int fills() { return order == null ? -1 : fills; }

    /** Which NODES a walk from one reaches by PARTS of these KINDS, one PART left out. */
    int reached(int from, String kinds, int without) {
        int seen = 1 << from;
        for (int again = 0; again < 9; again++) {
            for (int i = 0; i < parts.size(); i++) {
                P p = parts.get(i);
                if (i == without || kinds.indexOf('0' + p.kind) < 0) continue;
                if ((seen >> p.a & 1) + (seen >> p.b & 1) == 1) seen |= 1 << p.a | 1 << p.b;
            }
        }
        return seen;
    }

    int loop() {
        int r = 0;
        for (int i = 0; i < parts.size(); i++) {
            P p = parts.get(i);
            if ((p.kind == 2 || p.kind == 3) && (reached(p.a, "23", i) >> p.b & 1) == 1) r |= 1 << i;
        }
        return r;
    }

    int floating() {
        int r = 0;
        for (int v : used()) if ((reached(v, "02356", -1) & 1) == 0) r |= 1 << v;
        return r;
    }

    int islands() {
        TreeSet<Integer> groups = new TreeSet<>();
        groups.add(reached(0, "01234567", -1));
        for (int v : used()) groups.add(reached(v, "01234567", -1));
        return groups.size();
    }

    int ahead(int node, int ticks, int by, int what) {
        if (!ready || !isNode(node) || !in(ticks, 1, 60) || !in(by, -1, 2)) throw new NoSuchElementException();
        PlainWires w = copy();
        if (by >= 0) w.method = by;
        if (w.go(ticks) < ticks) throw new NoSuchElementException();
        return bits(w.volts(node), what);
    }

    int shift(int part, int node) {
        if (!isPart(part) || !isNode(node) || parts.get(part).n == 9999) return -2;
        PlainWires w = copy(), z = copy();
        z.parts.get(part).n++;
        if (w.rest() != 0 || z.rest() != 0) return -2;
        return Integer.signum(z.volts(node) == w.volts(node) ? 0 : Double.compare(z.volts(node), w.volts(node)));
    }

    int steps(int ticks, int what) {
        if (!ready || !in(ticks, 1, 60) || !in(what, 0, 2)) return -1;
        PlainWires w = copy();
        if (w.go(ticks) < ticks) return -1;
        return what == 0 ? w.counted[15] : what == 1 ? w.longest : w.counted[16];
    }
}
