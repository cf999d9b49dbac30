import java.util.ArrayList;
import java.util.List;
import java.util.NoSuchElementException;
import java.util.Random;

/**
 * Random runs of calls, always the same ones: what StampedWires answers against what PlainWires does.
 * The first argument may tell how many runs, the second the first seed.
 */
public final class SecondReadingTest {
    private static final long THREW = Long.MIN_VALUE;
    private static int wrong = 0;
    private static final String[] SIGHTS = {
        "a rest found", "a rest SINGULAR", "a rest STUCK", "a rest WILD", "a step SINGULAR", "a step STUCK", "a step WILD",
        "an order renewed", "a shift of -2", "of -1", "of 0", "of 1", "a forced part", "orders", "tries", "steps taken", "a refusal",
        "a forced step", "a rest to be spared", "a limited junction", "fills", "a number of the smallest sort", "a zero below 0",
        "a rest spared", "a rest of more than 11 unknowns"
    };
    private static final long[] seen = new long[SIGHTS.length];

    public static void main(String[] args) {
        int runs = args.length > 0 ? Integer.parseInt(args[0]) : 1500;
        int seed = args.length > 1 ? Integer.parseInt(args[1]) : 1;
        new SecondReadingTest(seed).emptied();
        new SecondReadingTest(seed).singularStep();
        for (int i = 0; i < runs && wrong < 5; i++) new SecondReadingTest(seed + i).run();
        if (PlainWires.sawNaN) { wrong++; System.out.println("something was no number"); }
        seen[7] = PlainWires.renewed;
        if (args.length > 0) for (int k = 0; k < seen.length; k++) System.out.println(SIGHTS[k] + ": " + seen[k]);
        // A test that never comes to what it is for proves nothing.
        for (int k = 0; k < seen.length; k++) if (wrong == 0 && seen[k] == 0) { wrong++; System.out.println("never seen: " + SIGHTS[k]); }
        System.out.println(wrong == 0 ? "both readings answer the same in " + runs + " runs" : wrong + " runs differ");
        if (wrong != 0) System.exit(1);
    }

    private final Random random;
    private final int seed;
    private final StampedWires x = new StampedWires();
    private PlainWires y = new PlainWires();
    private final List<String> calls = new ArrayList<>();
    private boolean differs = false;
    private final int wildness;

    private SecondReadingTest(int seed) {
        this.seed = seed;
        random = new Random(seed * 7919L + 13);
        wildness = random.nextInt(9);
    }

    private int to(int n) { return random.nextInt(n); }

    /** Mostly from the range, sometimes at or beyond its edges. */
    private int from(int low, int high) {
        int k = to(60);
        if (k == 0) return low - 1;
        if (k == 1) return high + 1;
        if (k == 2) return low;
        if (k == 3) return high;
        return low + to(high - low + 1);
    }

    private int part() { return from(0, Math.max(0, y.parts.size() - 1)); }

    private int odd() { return to(40) == 0 ? to(2) == 0 ? Integer.MIN_VALUE : Integer.MAX_VALUE : to(30) == 0 ? 2 : to(2); }

    private int node() {
        if (wildness == 6 || to(3) == 0) return from(0, 8);
        return to(5);
    }

    private int amount() {
        int k = to(12);
        if (k == 0) return from(1, 9999);
        if (k < 3) return 1 << to(13);
        if (k < 5) return from(1, 16);
        return 1 + to(k < 9 ? 256 : 2000);
    }

    private int kind() {
        if (wildness == 0) return new int[] {0, 0, 1, 2, 3, 4}[to(6)];
        if (wildness == 1) return new int[] {0, 5, 5, 4, 3, 7}[to(6)];
        if (wildness == 2) return new int[] {0, 1, 1, 5, 3, 6}[to(6)];
        if (wildness == 3) return new int[] {7, 7, 4, 0, 5, 2}[to(6)];
        if (wildness == 4) return new int[] {7, 7, 7, 4, 6, 1}[to(6)];
        if (wildness == 5) return new int[] {0, 1, 1, 1, 6, 3}[to(6)];
        if (wildness == 6) return new int[] {0, 2, 2, 3, 1, 5}[to(6)];
        return from(0, 7);
    }

    private void check(String call, long got, long due) {
        calls.add(call + " = " + got);
        if (got != due && !differs) {
            differs = true;
            wrong++;
            System.out.println("seed " + seed + ", call " + calls.size() + ": " + call + " answered " + got + ", the second reading " + due);
            for (String c : calls) if (calls.size() < 60 || c.matches("(part|control|level|times|value|rest|step|run|method|tolerance).*")) System.out.println("  " + c);
        }
    }

    private void run() {
        int first = wildness == 6 ? 12 : 2 + to(9);
        for (int i = 0; i < first; i++) tellPart();
        if (wildness != 4 && to(4) > 0) ground();
        int most = wildness == 5 && to(10) == 0 ? 400 : 90;
        for (int i = 0; i < most && !differs; i++) {
            if (most == 400 && to(4) > 0) {
                check("run(60)", x.run(60), y.run(60));
                if (to(4) == 0) lookAtAll();
            } else {
                call();
            }
        }
        if (!differs) lookAtAll();
    }

    /** A CAPACITOR that empties by the longest STEPS, till the numbers are the smallest that there are. */
    private void emptied() {
        int[][] parts = {{1, 1, 0, 1}, {0, 1, 0, 1}, {4, 0, 1, 1}, {0, 1, 2, 3}, {2, 2, 0, 40}};
        for (int[] p : parts) check("part", x.part(p[0], p[1], p[2], p[3]), y.part(p[0], p[1], p[2], p[3]));
        check("level(2, 0, 9)", x.level(2, 0, 9) ? 1 : 0, y.level(2, 0, 9) ? 1 : 0);
        check("method(0)", x.method(0) ? 1 : 0, y.method(0) ? 1 : 0);
        check("rest()", x.rest(), y.rest());
        for (int k = 0; k < 300 && !differs; k++) {
            check("run(60)", x.run(60), y.run(60));
            lookAtAll();
        }
    }

    /** GAINS between leaks alone, whose last pivot is too small once a CAPACITOR joins them: REST is found, a STEP is SINGULAR. */
    private void singularStep() {
        int[][] parts = {{6, 4, 0, 5}, {4, 3, 0, 21}, {7, 3, 0, 233}, {4, 1, 4, 28}, {1, 2, 0, 13}, {7, 3, 2, 1527}, {7, 1, 6, 126}, {1, 7, 4, 1721}, {7, 1, 5, 3}};
        int[][] levels = {{0, 12, 7}, {1, 2, -12}, {3, -9, -6}};
        int[][] controls = {{2, 4, 1}, {5, 2, 1}, {6, 0, 8}, {8, 7, 0}};
        for (int[] p : parts) check("part", x.part(p[0], p[1], p[2], p[3]), y.part(p[0], p[1], p[2], p[3]));
        for (int[] l : levels) check("level", x.level(l[0], l[1], l[2]) ? 1 : 0, y.level(l[0], l[1], l[2]) ? 1 : 0);
        for (int[] c : controls) check("control", x.control(c[0], c[1], c[2]) ? 1 : 0, y.control(c[0], c[1], c[2]) ? 1 : 0);
        check("times", x.times(0, 4, 15, 9, 0) ? 1 : 0, y.times(0, 4, 15, 9, 0) ? 1 : 0);
        check("tolerance(136)", x.tolerance(136) ? 1 : 0, y.tolerance(136) ? 1 : 0);
        check("rest()", x.rest(), y.rest());
        for (int k = 0; k < 9 && !differs; k++) tellStep();
    }

    private void tellPart() {
        int k = kind(), a = node(), b = to(3) == 0 ? 0 : node(), n = amount();
        int r = y.part(k, a, b, n);
        check("part(" + k + ", " + a + ", " + b + ", " + n + ")", x.part(k, a, b, n), r);
        if (r < 0) return;
        if (k == 3 || k == 4 || k == 6) { tellLevel(r); if (to(3) > 0) tellTimes(r); }
        if (k == 7 && to(6) > 0) tellControl(r);
    }

    /** A RESISTOR from each NODE to the GROUND keeps things tame. */
    private void ground() {
        for (int v = 1; v < 5; v++) {
            int n = amount();
            check("part(0, " + v + ", 0, " + n + ")", x.part(0, v, 0, n), y.part(0, v, 0, n));
        }
    }

    private void tellLevel(int p) {
        int most = to(3) == 0 ? 999 : 12;
        int l = from(-most, most), h = to(4) == 0 ? l : from(-most, most);
        check("level(" + p + ", " + l + ", " + h + ")", x.level(p, l, h) ? 1 : 0, y.level(p, l, h) ? 1 : 0);
    }

    private void tellTimes(int p) {
        boolean wide = to(6) == 0;
        int d = wide ? from(0, 9999) : to(30), r = wide ? from(1, 999) : 1 + to(20), w = wide ? from(0, 999) : to(40);
        int q = to(2) == 0 ? 0 : to(8) == 0 ? from(2 * r + w, 9999) : 2 * r + w + to(30);
        check("times(" + p + ", " + d + ", " + r + ", " + w + ", " + q + ")", x.times(p, d, r, w, q) ? 1 : 0, y.times(p, d, r, w, q) ? 1 : 0);
    }

    private void tellControl(int p) {
        int c = node(), d = node();
        check("control(" + p + ", " + c + ", " + d + ")", x.control(p, c, d) ? 1 : 0, y.control(p, c, d) ? 1 : 0);
    }

    private void call() {
        switch (to(30)) {
            case 0: if (to(4) == 0) tellPart(); break;
            case 1: { int p = part(), n = amount(); check("value(" + p + ", " + n + ")", x.value(p, n) ? 1 : 0, y.value(p, n) ? 1 : 0); break; }
            case 2: tellLevel(part()); break;
            case 3: tellTimes(part()); break;
            case 4: if (to(3) == 0) tellControl(part()); break;
            case 5: { int n = from(0, 2); check("method(" + n + ")", x.method(n) ? 1 : 0, y.method(n) ? 1 : 0); break; }
            case 6: { int n = to(2) == 0 ? from(1, 1024) : 1 + to(16); check("tolerance(" + n + ")", x.tolerance(n) ? 1 : 0, y.tolerance(n) ? 1 : 0); break; }
            case 7: case 8: tellRest(); break;
            case 9: case 10: case 11: case 12: tellStep(); break;
            case 13: case 14: { int n = to(12) == 0 ? from(1, 60) : 1 + to(30); check("run(" + n + ")", x.run(n), y.run(n)); lookAtAll(); break; }
            case 15: if (to(40) == 0) clear(); break;
            case 16: case 17: foretell(); break;
            case 18: { int p = part(), v = from(0, 8); int r = y.shift(p, v); check("shift(" + p + ", " + v + ")", x.shift(p, v), r); seen[10 + r]++; break; }
            case 19: { int n = from(1, 60), w = from(0, 2); check("steps(" + n + ", " + w + ")", x.steps(n, w), y.steps(n, w)); break; }
            case 20: { int p = part(), w = from(0, 12); check("told(" + p + ", " + w + ")", x.told(p, w), y.told(p, w)); break; }
            case 21: { int t = to(2) == 0 ? from(0, 9999) : to(100), i = from(0, 20); if (to(3) == 0) check("breaks(" + t + ", " + i + ")", x.breaks(t, i), y.breaks(t, i)); break; }
            case 22: wave(); break;
            case 23: lookAtGraph(); break;
            case 24: { int k = from(0, 8), w = from(0, 1); check("pivot(" + k + ", " + w + ")", x.pivot(k, w), y.pivot(k, w)); break; }
            case 25: { int w = from(0, 19); check("count(" + w + ")", x.count(w), y.count(w)); break; }
            case 26: { int v = from(0, 8); check("milli(" + v + ")", x.milli(v), y.milli(v)); break; }
            default: lookAtNumbers(); break;
        }
    }

    private void tellStep() {
        int r = y.step();
        check("step()", x.step(), r);
        if (r == 0) seen[3 + y.failed]++;
        lookAtAll();
    }

    private void tellRest() {
        int spared = y.counted[18];
        int r = y.rest();
        check("rest()", x.rest(), r);
        seen[r]++;
        if (r == 0 && y.size() > 11) seen[24]++;
        if (r == 0 && y.counted[18] > spared) seen[23]++;
        lookAtAll();
    }

    private void clear() {
        int n = y.parts.size();
        y = new PlainWires();
        check("clear()", x.clear(), n);
        lookAtAll();
    }

    private void foretell() {
        int v = from(0, 8), n = from(1, 60), m = from(-1, 2), w = odd();
        long got, due;
        try { got = x.ahead(v, n, m, w); } catch (NoSuchElementException e) { got = THREW; }
        try { due = y.ahead(v, n, m, w); } catch (NoSuchElementException e) { due = THREW; }
        check("ahead(" + v + ", " + n + ", " + m + ", " + w + ")", got, due);
    }

    private void wave() {
        int p = part(), t = to(2) == 0 ? from(0, 99999) : to(120), w = odd();
        long got, due;
        try { got = x.wave(p, t, w); } catch (NoSuchElementException e) { got = THREW; }
        try { due = y.wave(p, t, w); } catch (NoSuchElementException e) { due = THREW; }
        check("wave(" + p + ", " + t + ", " + w + ")", got, due);
    }

    private void lookAtGraph() {
        check("loop()", x.loop(), y.loop());
        check("floating()", x.floating(), y.floating());
        check("islands()", x.islands(), y.islands());
    }

    private void lookAtNumbers() {
        int w = odd();
        int v = from(0, 8), p = part();
        long got, due;
        try { got = x.volt(v, w); } catch (NoSuchElementException e) { got = THREW; }
        try { due = y.volt(v, w); } catch (NoSuchElementException e) { due = THREW; }
        check("volt(" + v + ", " + w + ")", got, due);
        try { got = x.flow(p, w); } catch (NoSuchElementException e) { got = THREW; }
        try { due = y.flow(p, w); } catch (NoSuchElementException e) { due = THREW; }
        check("flow(" + p + ", " + w + ")", got, due);
        try { got = x.charge(p, w); } catch (NoSuchElementException e) { got = THREW; }
        try { due = y.charge(p, w); } catch (NoSuchElementException e) { due = THREW; }
        check("charge(" + p + ", " + w + ")", got, due);
        try { got = x.balance(v, w); } catch (NoSuchElementException e) { got = THREW; }
        try { due = y.balance(v, w); } catch (NoSuchElementException e) { due = THREW; }
        check("balance(" + v + ", " + w + ")", got, due);
        int e1 = from(0, Math.max(0, y.size() - 1)), u1 = from(0, Math.max(0, y.size() - 1));
        try { got = x.entry(e1, u1, w); } catch (NoSuchElementException e) { got = THREW; }
        try { due = y.entry(e1, u1, w); } catch (NoSuchElementException e) { due = THREW; }
        check("entry(" + e1 + ", " + u1 + ", " + w + ")", got, due);
    }

    private void lookAtAll() {
        for (int w = 0; w < 20; w++) check("count(" + w + ")", x.count(w), y.count(w));
        for (int w = 13; w < 20; w++) if (y.count(w) > 0) seen[w]++;
        if (y.forcedPart > 0) seen[12]++;
        check("fills()", x.fills(), y.fills());
        for (int v = 0; v < 9; v++) for (int w = 0; w < 2; w++) check("volt(" + v + ", " + w + ")", x.volt(v, w), y.volt(v, w));
        for (int k = 0; k < y.size(); k++) for (int w = 0; w < 2; w++) check("pivot(" + k + ", " + w + ")", x.pivot(k, w), y.pivot(k, w));
        if (y.fills > 0 && y.order != null) seen[20]++;
        for (int v = 1; v < 9; v++) {
            double z = Math.abs(y.volts(v));
            if (z > 0 && z < Double.MIN_NORMAL) seen[21]++;
            if (z == 0 && 1 / y.volts(v) < 0) seen[22]++;
        }
        if (y.ready) for (int i = 0; i < y.parts.size(); i++) for (int w = 0; w < 2; w++) check("flow(" + i + ", " + w + ")", x.flow(i, w), y.flow(i, w));
    }
}
