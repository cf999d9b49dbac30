import java.util.ArrayList;
import java.util.Arrays;
import java.util.List;
import java.util.TreeSet;

/** The limits of what is asked: promises 13 to 19, 21 and 25 to 27, and the WAVE with its BREAKS. */
public final class AnswerEdgesTest extends Due {
    private static final int[] NODES = {Integer.MIN_VALUE, -2, -1, 0, 1, 2, 3, 4, 5, 6, 7, 8, 9, 10, 32, 33, Integer.MAX_VALUE};
    private static final int[] WHATS = {Integer.MIN_VALUE, -1, 0, 1, 2, 3, Integer.MAX_VALUE};
    private static final int[] PARTS = {Integer.MIN_VALUE, -1, 0, 1, 7, 8, 14, 15, 16, 17, 32, Integer.MAX_VALUE};

    public static void main(String[] args) {
        voltagesOfNodes();
        voltagesWhileNotReady();
        bitsOfNumbers();
        millisOfNodes();
        millisBeyondTheInts();
        flowsOfParts();
        flowsOfEachKind();
        chargesOfEachKind();
        balancesOfNodes();
        balanceGoesByNumbers();
        wavesOfParts();
        wavesAtTheirEdges();
        wavesTurnByTheirPeriod();
        wavesOfAllShapes();
        breaksOnBothSides();
        breaksOfNoWave();
        breaksOnceAndOver();
        breaksOfAllShapes();
        sightsOfCount();
        loopsFullAndEmpty();
        loopsOfTwo();
        floatingFullAndEmpty();
        islandsFullAndEmpty();
        end("what is asked keeps to its limits");
    }

    /** NODE v is at v volts by a VOLTAGE, for v from 1 to 8; eight RESISTORS make the 16 full. */
    private static StampedWires full() {
        StampedWires x = new StampedWires();
        for (int v = 1; v <= 8; v++) {
            x.part(3, v, 0, 1);
            x.level(v - 1, v, v);
        }
        for (int v = 1; v <= 8; v++) x.part(0, v, v - 1, v);
        return x;
    }

    // "BITS (what 0, 1) of the voltage of a NODE .. NoSuchElementException: others."
    private static void voltagesOfNodes() {
        StampedWires x = full();
        for (int ready = 0; ready < 2; ready++) {
            for (int v : NODES) for (int w : WHATS) {
                long due = !in(v, 0, 8) || !in(w, 0, 1) ? THREW : ready == 0 ? 0 : w == 0 ? upper(v) : lower(v);
                due(13, "volt(" + v + ", " + w + ")", volt(x, v, w), due);
            }
            due(9, "rest()", x.rest(), 0);
        }
        // A NODE that is not USED is at 0.
        StampedWires y = one(8, 4);
        y.rest();
        for (int v = 0; v < 9; v++) if (v != 1) dueVolt(13, y, v, 0.0);
    }

    // "as the last REST or STEP left it (0 if it is not READY)"
    private static void voltagesWhileNotReady() {
        StampedWires x = one(8, 4);
        x.part(7, 1, 0, 1);
        double v = 8 / (LEAK + 0.25);
        dueVolt(13, x, 1, 0.0);
        x.rest();
        dueVolt(13, x, 1, v);
        x.value(1, 9);
        x.level(0, 1, 1);
        dueVolt(13, x, 1, v);
        due(14, "milli(1)", x.milli(1), 31999);
        x.control(2, 0, 0);
        dueVolt(13, x, 1, 0.0);
        due(14, "milli(1) behind a control", x.milli(1), 0);
        x.rest();
        dueVolt(13, x, 1, 1 / (LEAK + 1.0 / 9));
        x.part(0, 1, 0, 1);
        dueVolt(13, x, 1, 0.0);
        due(14, "milli(1) behind a part", x.milli(1), 0);
        // What was left is gone also if the REST behind it fails.
        x.part(3, 1, 0, 1);
        x.part(3, 1, 0, 1);
        due(9, "rest() that fails", x.rest(), 1);
        dueVolt(13, x, 1, 0.0);
    }

    // "those of the double, what 0: the upper 32, 1: the lower 32"
    private static void bitsOfNumbers() {
        for (int low : new int[] {-999, -3, -1, 0, 1, 2, 3, 998, 999}) {
            for (int high : new int[] {-999, -1, 0, 1, 7, 999}) {
                for (int rise : new int[] {1, 3, 7, 998, 999}) {
                    StampedWires y = new StampedWires();
                    y.part(6, 1, 0, 1);
                    y.level(0, low, high);
                    y.times(0, 0, rise, 0, 0);
                    for (int t : new int[] {0, 1, rise / 2, rise - 1, rise}) {
                        double due = t == rise ? high : low + (double) ((high - low) * t) / rise;
                        due(18, "wave(0, " + t + ", 0)", wave(y, 0, t, 0), upper(due));
                        due(18, "wave(0, " + t + ", 1)", wave(y, 0, t, 1), lower(due));
                    }
                }
            }
        }
    }

    // "Integer.MIN_VALUE: others"
    private static void millisOfNodes() {
        StampedWires x = full();
        for (int ready = 0; ready < 2; ready++) {
            for (int v : NODES) due(14, "milli(" + v + ")", x.milli(v), !in(v, 0, 8) ? Integer.MIN_VALUE : ready * 1000 * v);
            x.rest();
        }
    }

    // "1000 times that voltage, cut to an int (beyond the ints: the last of them)"
    private static void millisBeyondTheInts() {
        boolean below = false, above = false;
        for (int n : new int[] {1, 3, 2149, 2150, 2151, 2156, 9999}) {
            for (int current : new int[] {-999, -998, -500, -1, 0, 1, 3, 500, 997, 998, 999}) {
                StampedWires x = one(current, n);
                x.rest();
                double v = 1000 * (current / (LEAK + 1.0 / n));
                int due = v >= 2147483647.0 ? Integer.MAX_VALUE : v <= -2147483648.0 ? Integer.MIN_VALUE : v < 0 ? -(int) Math.floor(-v) : (int) Math.floor(v);
                due(14, "milli(1) of " + current + " by " + n, x.milli(1), due);
                above |= due == Integer.MAX_VALUE;
                below |= due == Integer.MIN_VALUE;
            }
        }
        due(14, "some were beyond", above && below, true);
        // Cut, not rounded, towards 0 on both sides.
        for (int sign = -1; sign <= 1; sign += 2) {
            StampedWires x = new StampedWires();
            x.part(3, 1, 0, 1);
            x.level(0, 0, sign);
            x.times(0, 0, 999, 0, 0);
            x.rest();
            x.step();
            due(14, "milli(1): 1.001", x.milli(1), sign);
            x.level(0, sign, 0);
            x.step();
            due(14, "milli(1): 997.99", x.milli(1), sign * 997);
        }
    }

    private static void flowsOfParts() {
        StampedWires x = full();
        for (int p : PARTS) for (int w : WHATS) due(15, "flow(" + p + ", " + w + ") ahead of REST", flow(x, p, w), THREW);
        x.rest();
        for (int p : PARTS) for (int w : WHATS) {
            boolean good = in(p, 0, 15) && in(w, 0, 1);
            due(15, "flow(" + p + ", " + w + ") answers", flow(x, p, w) != THREW, good);
            // RESISTOR 7 + v lies between v and v - 1 volts.
            double flow = 1.0 / (p - 7) * 1.0;
            if (good && p > 7) due(15, "flow(" + p + ", " + w + ")", flow(x, p, w), w == 0 ? upper(flow) : lower(flow));
        }
    }

    private static void flowsOfEachKind() {
        for (int sign = -1; sign <= 1; sign++) {
            StampedWires x = new StampedWires();
            x.part(3, 1, 0, 1);
            x.level(0, 3 * sign, 3 * sign);
            int[] kinds = {0, 5, 6, 6, 7, 4};
            for (int k = 0; k < 6; k++) x.part(kinds[k], 1, 0, 32);
            x.level(3, 0, 0);
            x.level(4, 1, 1);
            x.control(5, 0, 1);
            x.level(6, -7, 7);
            x.times(6, 0, 2, 0, 0);
            x.part(1, 1, 0, 16);
            due(9, "rest()", x.rest(), 0);
            double v = 3.0 * sign;
            dueFlow(x, 1, 1.0 / 32 * v);
            dueFlow(x, 2, sign > 0 ? 0.5 * 3 * 3 : 0.0);
            dueFlow(x, 3, 1 / 65536.0 * v);
            dueFlow(x, 4, 0.5 * v);
            dueFlow(x, 5, 0.125 * (0 - v));
            dueFlow(x, 6, -7.0);
            dueFlow(x, 7, 16 / 16.0 * 0.0);
            x.step();
            dueFlow(x, 6, 0.0);
            // By what is told now, at the time that it has come to.
            x.level(6, 2, 2);
            dueFlow(x, 6, 2.0);
            x.level(3, 1, 1);
            dueFlow(x, 3, 0.5 * v);
            x.value(1, 1);
            dueFlow(x, 1, 1.0 * v);
        }
    }

    // "BITS of the CHARGE of a CAPACITOR, a COIL; NoSuchElementException: others, it is not READY."
    private static void chargesOfEachKind() {
        StampedWires x = new StampedWires();
        for (int kind = 0; kind < 8; kind++) x.part(kind, kind + 1, 0, 24);
        x.level(4, -4, -4);
        x.part(0, 5, 2, 1);
        x.part(0, 5, 3, 1);
        for (int p : PARTS) due(16, "charge(" + p + ", 0) ahead of REST", charge(x, p, 0), THREW);
        due(9, "rest()", x.rest(), 0);
        for (int p : PARTS) for (int w : WHATS) {
            due(16, "charge(" + p + ", " + w + ") answers", charge(x, p, w) != THREW, p == 1 && in(w, 0, 1));
        }
        for (int kind = 0; kind < 8; kind++) due(16, "charge of the kind " + kind, charge(x, kind, 0) != THREW, kind == 1 || kind == 2);
        double volts = Double.longBitsToDouble((long) x.volt(2, 0) << 32 | x.volt(2, 1) & 0xffffffffL);
        double current = Double.longBitsToDouble((long) x.flow(2, 0) << 32 | x.flow(2, 1) & 0xffffffffL);
        due(16, "something is there", volts > 0 && current > 0, true);
        dueCharge(x, 1, 1.5 * volts);
        dueCharge(x, 2, 1.5 * current);
        x.value(1, 1);
        x.value(2, 9999);
        dueCharge(x, 1, 1 / 16.0 * volts);
        dueCharge(x, 2, 9999 / 16.0 * current);
        x.part(0, 1, 0, 1);
        due(16, "charge(1, 0) behind a part", charge(x, 1, 0), THREW);
    }

    // "NoSuchElementException: others, it is not USED, not READY."
    private static void balancesOfNodes() {
        StampedWires x = new StampedWires();
        x.part(0, 3, 8, 1);
        x.part(7, 3, 0, 1);
        x.control(1, 5, 5);
        for (int v : NODES) due(17, "balance(" + v + ", 0) ahead of REST", balance(x, v, 0), THREW);
        x.rest();
        for (int v : NODES) for (int w : WHATS) {
            boolean good = (v == 3 || v == 5 || v == 8) && in(w, 0, 1);
            due(17, "balance(" + v + ", " + w + ") answers", balance(x, v, w) != THREW, good);
        }
        x.control(1, 0, 0);
        due(17, "balance(3, 0) behind a control", balance(x, 3, 0), THREW);
        x.rest();
        due(17, "balance(5, 0): USED no more", balance(x, 5, 0), THREW);
        due(17, "balance(3, 0)", balance(x, 3, 0), 0);
        StampedWires y = full();
        y.rest();
        for (int v : NODES) due(17, "balance(" + v + ", 0) of the full", balance(y, v, 0) != THREW, in(v, 1, 8));
    }

    // "1 / 1048576 * its voltage, then, by numbers, + the FLOW of each PART of which it is a, - of each of which it is b"
    private static void balanceGoesByNumbers() {
        StampedWires x = new StampedWires();
        x.part(0, 1, 0, 3);
        x.part(4, 0, 1, 1);
        x.level(1, 5, 5);
        x.part(0, 2, 1, 7);
        x.part(6, 1, 2, 100);
        x.level(3, 1, 1);
        x.part(4, 2, 1, 1);
        x.level(4, 1, 1);
        x.rest();
        double v1 = Double.longBitsToDouble((long) x.volt(1, 0) << 32 | x.volt(1, 1) & 0xffffffffL);
        double v2 = Double.longBitsToDouble((long) x.volt(2, 0) << 32 | x.volt(2, 1) & 0xffffffffL);
        double one = LEAK * v1 + 1.0 / 3 * (v1 - 0) - 5 - 1.0 / 7 * (v2 - v1) + 100 / 64.0 * (v1 - v2) - 1;
        double two = LEAK * v2 + 1.0 / 7 * (v2 - v1) - 100 / 64.0 * (v1 - v2) + 1;
        due(17, "balance(1, 0)", balance(x, 1, 0), upper(one));
        due(17, "balance(1, 1)", balance(x, 1, 1), lower(one));
        due(17, "balance(2, 0)", balance(x, 2, 0), upper(two));
        due(17, "balance(2, 1)", balance(x, 2, 1), lower(two));
    }

    // "of a PART at a time (0 to 99999); NoSuchElementException: others, it has none"
    private static void wavesOfParts() {
        StampedWires x = new StampedWires();
        for (int i = 0; i < 16; i++) x.part(i % 8, 1, 0, 1);
        for (int p = 0; p < 16; p++) due(18, "wave(" + p + ", 0, 0) answers", wave(x, p, 0, 0) != THREW, isWave(p % 8));
        for (int p : PARTS) due(18, "wave(" + p + ", 0, 0) answers", wave(x, p, 0, 0) != THREW, p == 14);
        for (int t : new int[] {Integer.MIN_VALUE, -1, 0, 1, 99998, 99999, 100000, Integer.MAX_VALUE}) {
            for (int w : WHATS) due(18, "wave(14, " + t + ", " + w + ")", wave(x, 14, t, w), in(t, 0, 99999) && in(w, 0, 1) ? 0 : THREW);
        }
    }

    private static void dueWave(StampedWires x, int time, double v) {
        due(18, "wave(0, " + time + ", 0)", wave(x, 0, time, 0), upper(v));
        due(18, "wave(0, " + time + ", 1)", wave(x, 0, time, 1), lower(v));
    }

    /** VOLTAGE 0 by these, with 10 and 16 as LOW and HIGH. */
    private static StampedWires waving(int delay, int rise, int width, int period) {
        StampedWires x = new StampedWires();
        x.part(3, 1, 0, 1);
        x.level(0, 10, 16);
        x.times(0, delay, rise, width, period);
        return x;
    }

    // "LOW, if t is less than DELAY"; "below RISE", "below RISE + WIDTH", "below 2 * RISE + WIDTH", "else LOW"
    private static void wavesAtTheirEdges() {
        StampedWires x = waving(100, 3, 5, 0);
        int[] times = {0, 99, 100, 101, 102, 103, 104, 107, 108, 109, 110, 111, 112, 99999};
        double[] due = {10, 10, 10, 12, 14, 16, 16, 16, 16, 14, 12, 10, 10, 10};
        for (int k = 0; k < times.length; k++) dueWave(x, times[k], due[k]);
        StampedWires y = waving(9999, 999, 999, 0);
        int[] late = {9998, 9999, 10000, 10997, 10998, 11996, 11997, 11998, 12995, 12996, 12997};
        double[] then = {10, 10, 10 + 6 / 999.0, 10 + 6 * 998 / 999.0, 16, 16, 16, 16 - 6 / 999.0, 16 - 6 * 998 / 999.0, 10, 10};
        for (int k = 0; k < late.length; k++) dueWave(y, late[k], then[k]);
        StampedWires z = waving(0, 1, 0, 0);
        dueWave(z, 0, 10);
        dueWave(z, 1, 16);
        dueWave(z, 2, 10);
        dueWave(z, 3, 10);
    }

    // "if PERIOD is not 0 modulo PERIOD"
    private static void wavesTurnByTheirPeriod() {
        // Just as long as its own way up and down: LOW for one tick alone.
        StampedWires x = waving(7, 2, 3, 7);
        double[] due = {10, 13, 16, 16, 16, 16, 13};
        for (int t = 0; t < 7; t++) dueWave(x, t, 10);
        for (int t = 7; t < 100; t++) dueWave(x, t, due[(t - 7) % 7]);
        for (int t = 99999; t > 99980; t--) dueWave(x, t, due[(t - 7) % 7]);
        // One longer: LOW for two.
        StampedWires y = waving(7, 2, 3, 8);
        double[] longer = {10, 13, 16, 16, 16, 16, 13, 10};
        for (int t = 7; t < 100; t++) dueWave(y, t, longer[(t - 7) % 8]);
        // The longest: at 9999 the second begins.
        StampedWires z = waving(0, 1, 0, 9999);
        int[] times = {0, 1, 2, 9998, 9999, 10000, 10001, 19998, 19999, 99990, 99991, 99992, 99999};
        double[] then = {10, 16, 10, 10, 10, 16, 10, 10, 16, 10, 16, 10, 10};
        for (int k = 0; k < times.length; k++) dueWave(z, times[k], then[k]);
        StampedWires w = waving(9999, 1, 0, 9999);
        dueWave(w, 1, 10);
        dueWave(w, 10000, 16);
        dueWave(w, 19999, 16);
        // The shortest: up and down by turns.
        StampedWires v = waving(1, 1, 0, 2);
        for (int t = 0; t < 20; t++) dueWave(v, t, t > 0 && t % 2 == 0 ? 16 : 10);
        dueWave(v, 99998, 16);
        dueWave(v, 99999, 10);
    }

    /** Drawn tick by tick: LOW for the DELAY, up, HIGH, down, and LOW till the PERIOD ends, then again. */
    private static void wavesOfAllShapes() {
        int[][] shapes = {{0, 1, 0, 0}, {0, 1, 0, 2}, {5, 4, 0, 0}, {5, 4, 0, 8}, {3, 2, 6, 10}, {3, 2, 6, 11}, {0, 7, 1, 40}, {60, 3, 3, 9}, {0, 30, 20, 81}};
        int[][] levels = {{0, 1}, {-7, 9}, {9, -7}, {5, 5}, {-999, 999}};
        for (int[] s : shapes) for (int[] l : levels) {
            List<Double> drawn = new ArrayList<>();
            for (int k = 0; k < s[0]; k++) drawn.add((double) l[0]);
            while (drawn.size() < 200) {
                for (int k = 0; k < s[1]; k++) drawn.add(l[0] + (double) ((l[1] - l[0]) * k) / s[1]);
                for (int k = 0; k < s[2]; k++) drawn.add((double) l[1]);
                for (int k = 0; k < s[1]; k++) drawn.add(l[1] - (double) ((l[1] - l[0]) * k) / s[1]);
                int rest = s[3] == 0 ? 200 : s[3] - 2 * s[1] - s[2];
                for (int k = 0; k < rest; k++) drawn.add((double) l[0]);
            }
            StampedWires x = waving(s[0], s[1], s[2], s[3]);
            x.level(0, l[0], l[1]);
            for (int t = 0; t < 200; t++) dueWave(x, t, drawn.get(t));
        }
    }

    // "The i-th (0 to 20) BREAK .. from a time (0 to 9999) on, that one, too"
    private static void breaksOnBothSides() {
        int[] far = {Integer.MIN_VALUE, -1, 0, 1, 9998, 9999, 10000, Integer.MAX_VALUE};
        int[] many = {Integer.MIN_VALUE, -1, 0, 1, 19, 20, 21, Integer.MAX_VALUE};
        StampedWires x = waving(0, 1, 0, 2);
        for (int t : far) for (int i : many) {
            boolean good = in(t, 0, 9999) && in(i, 0, 20);
            due(19, "breaks(" + t + ", " + i + ")", x.breaks(t, i), good ? t + i : -1);
        }
    }

    // "NONE: others, none such"
    private static void breaksOfNoWave() {
        StampedWires x = new StampedWires();
        due(19, "breaks(0, 0) of the empty", x.breaks(0, 0), -1);
        for (int kind : new int[] {0, 1, 2, 5, 7}) x.part(kind, 1, 0, 1);
        for (int i = 0; i <= 20; i++) due(19, "breaks(0, " + i + ") without a WAVE", x.breaks(0, i), -1);
        for (int kind : new int[] {3, 4, 6}) {
            StampedWires y = new StampedWires();
            y.part(kind, 1, 0, 1);
            int[] due = {0, 1, 2, -1, -1};
            for (int i = 0; i < 5; i++) due(19, "breaks(0, " + i + ") at first, of the kind " + kind, y.breaks(0, i), due[i]);
            due(19, "breaks(2, 0)", y.breaks(2, 0), 2);
            due(19, "breaks(3, 0)", y.breaks(3, 0), -1);
        }
    }

    // "equal ones once"; "each, if PERIOD is not 0, and so many PERIODS, 1, 2, on and on, later, too"
    private static void breaksOnceAndOver() {
        // WIDTH 0: the second and the third are one; two alike WAVES are one, too.
        StampedWires x = waving(4, 3, 0, 0);
        x.part(6, 2, 0, 1);
        x.times(1, 4, 3, 0, 0);
        int[] once = {4, 7, 10, -1};
        for (int i = 0; i < 4; i++) due(19, "breaks(0, " + i + ")", x.breaks(0, i), once[i]);
        // PERIOD 2 * RISE + WIDTH: the fourth is the first of the next.
        x.times(0, 4, 3, 2, 8);
        x.times(1, 4, 3, 2, 8);
        int[] over = {4, 7, 9, 12, 15, 17, 20, 23, 25, 28, 31, 33, 36, 39, 41, 44, 47, 49, 52, 55, 57};
        for (int i = 0; i < 21; i++) due(19, "breaks(0, " + i + ")", x.breaks(0, i), over[i]);
        // None of them is ahead of the DELAY, though a PERIOD before there would be one.
        due(19, "breaks(0, 0)", x.breaks(0, 0), 4);
        // The latest that can be asked for.
        StampedWires y = waving(9999, 999, 999, 9999);
        int[] late = {9999, 10998, 11997, 12996, 19998, 20997, 21996, 22995, 29997};
        for (int i = 0; i < 9; i++) due(19, "breaks(0, " + i + ")", y.breaks(0, i), late[i]);
        due(19, "breaks(9999, 20)", y.breaks(9999, 20), 9999 * 6);
        due(19, "breaks(9999, 0)", y.breaks(9999, 0), 9999);
    }

    private static void breaksOfAllShapes() {
        int[][] all = {{0, 1, 0, 0}, {5, 4, 0, 9}, {3, 2, 6, 10}, {0, 7, 1, 40}, {60, 3, 3, 9}, {40, 999, 999, 9999}, {9999, 1, 0, 0}};
        for (int i = 0; i < all.length; i++) for (int j = i; j < all.length; j++) {
            TreeSet<Integer> breaks = new TreeSet<>();
            for (int[] s : new int[][] {all[i], all[j]}) {
                int[] first = {s[0], s[0] + s[1], s[0] + s[1] + s[2], s[0] + s[1] + s[1] + s[2]};
                for (int f : first) for (int k = 0; k == 0 || s[3] > 0 && k < 12000; k++) breaks.add(f + k * s[3]);
            }
            StampedWires x = waving(all[i][0], all[i][1], all[i][2], all[i][3]);
            x.part(4, 1, 2, 1);
            x.times(1, all[j][0], all[j][1], all[j][2], all[j][3]);
            for (int t : new int[] {0, 1, 5, 6, 41, 59, 60, 61, 9998, 9999}) {
                Integer at = breaks.ceiling(t);
                for (int k = 0; k <= 20; k++) {
                    due(19, "breaks(" + t + ", " + k + ") of " + Arrays.toString(all[i]) + Arrays.toString(all[j]), x.breaks(t, k), at == null ? -1 : at);
                    at = at == null ? null : breaks.higher(at);
                }
            }
        }
    }

    // "NONE for another what"
    private static void sightsOfCount() {
        for (StampedWires x : new StampedWires[] {new StampedWires(), one(8, 4), full()}) {
            for (int w : new int[] {Integer.MIN_VALUE, -2, -1, 20, 21, 32, Integer.MAX_VALUE}) due(21, "count(" + w + ")", x.count(w), -1);
            x.rest();
            for (int w : new int[] {Integer.MIN_VALUE, -2, -1, 20, 21, 32, Integer.MAX_VALUE}) due(21, "count(" + w + ")", x.count(w), -1);
            due(21, "count(19)", x.count(19), 0);
            due(21, "count(12)", x.count(12), 1);
        }
        StampedWires x = full();
        dueCounts(21, "of the full", x, 0, 16, 16, 510);
    }

    private static void loopsFullAndEmpty() {
        due(25, "loop() of the empty", new StampedWires().loop(), 0);
        // A chain from the GROUND over all NODES is none; the 9th closes it, and each of them lies on it.
        StampedWires x = new StampedWires();
        for (int v = 0; v < 8; v++) {
            x.part(v % 2 == 0 ? 2 : 3, v, v + 1, 1);
            due(25, "loop() of a chain", x.loop(), 0);
        }
        for (int kind : new int[] {0, 1, 4, 5, 6}) {
            x.part(kind, 8, 0, 1);
            due(25, "loop() closed by the kind " + kind, x.loop(), 0);
        }
        x.part(3, 8, 0, 1);
        due(25, "loop() of nine", x.loop(), 255 + (1 << 13));
        x.part(7, 8, 0, 1);
        x.part(2, 1, 7, 1);
        due(25, "loop() of the full", x.loop(), 255 + (1 << 13) + (1 << 15));
    }

    // "(two between the same NODES are one)"
    private static void loopsOfTwo() {
        int[] kinds = {2, 3};
        for (int first : kinds) for (int second : kinds) for (int turned = 0; turned < 2; turned++) {
            StampedWires x = new StampedWires();
            x.part(first, 3, 4, 1);
            x.part(second, turned == 0 ? 3 : 4, turned == 0 ? 4 : 3, 1);
            due(25, "loop() of two", x.loop(), 3);
        }
        StampedWires x = new StampedWires();
        for (int i = 0; i < 16; i++) x.part(2, 1, 0, 1);
        due(25, "loop() of 16 side by side", x.loop(), 65535);
    }

    private static void floatingFullAndEmpty() {
        due(26, "floating() of the empty", new StampedWires().floating(), 0);
        int[] ways = {0, 2, 3, 5, 6};
        int[] none = {1, 4, 7};
        for (int kind : ways) {
            StampedWires x = new StampedWires();
            for (int v = 8; v > 0; v--) {
                x.part(kind, v, v - 1, 1);
                due(26, "floating() by the kind " + kind, x.floating(), v == 1 ? 0 : (511 >> (v - 1)) << (v - 1));
            }
        }
        for (int kind : none) {
            StampedWires x = new StampedWires();
            for (int v = 8; v > 0; v--) x.part(kind, v, v - 1, 1);
            due(26, "floating() by the kind " + kind, x.floating(), 510);
            x.part(0, 0, 8, 1);
            due(26, "floating() but for 8", x.floating(), 254);
        }
        // By what a GAIN goes no way leads.
        StampedWires x = new StampedWires();
        x.part(7, 1, 0, 1);
        x.control(0, 8, 0);
        due(26, "floating() of a GAIN", x.floating(), 2 + 256);
        x.control(0, 0, 0);
        due(26, "floating(): 8 is not USED", x.floating(), 2);
    }

    // "groups of USED NODES and the GROUND joined by PARTS from a to b, the GROUND's, too"
    private static void islandsFullAndEmpty() {
        due(27, "islands() of the empty", new StampedWires().islands(), 1);
        for (int kind = 0; kind < 8; kind++) {
            StampedWires x = new StampedWires();
            x.part(kind, 1, 2, 1);
            due(27, "islands() by the kind " + kind, x.islands(), 2);
            x.part(kind, 3, 2, 1);
            due(27, "islands() by the kind " + kind, x.islands(), 2);
            x.part(kind, 5, 8, 1);
            due(27, "islands() by the kind " + kind, x.islands(), 3);
            x.part(kind, 0, 8, 1);
            due(27, "islands() by the kind " + kind, x.islands(), 2);
            x.part(kind, 3, 5, 1);
            due(27, "islands() by the kind " + kind, x.islands(), 1);
        }
        // The most: seven NODES that GAINS go by stand alone, the eighth is joined to the GROUND.
        StampedWires x = new StampedWires();
        for (int i = 0; i < 4; i++) {
            x.part(7, 1, 0, 1);
            x.control(i, 2 + 2 * i, i == 3 ? 0 : 3 + 2 * i);
        }
        due(27, "islands() at most", x.islands(), 8);
        due(21, "count(2)", x.count(2), 510);
    }

    private AnswerEdgesTest() { }
}
