import java.util.NoSuchElementException;

/** What the tests share: answers held against what is due, and the calls that may throw. */
class Due {
    static final double LEAK = 1 / 1048576.0;
    static final long THREW = Long.MIN_VALUE;
    static final int NO_PART = Integer.MIN_VALUE;
    static final int[] FAR = {Integer.MIN_VALUE, -1, Integer.MAX_VALUE};
    private static int wrong = 0;

    static void due(int promise, String what, long got, long want) {
        if (got != want) {
            wrong++;
            // The first ones tell enough.
            if (wrong <= 50) System.out.println("promise " + promise + ": " + what + " answered " + got + ", due is " + want);
        }
    }

    static void due(int promise, String what, boolean got, boolean want) {
        due(promise, what, got ? 1 : 0, want ? 1 : 0);
    }

    static void end(String good) {
        System.out.println(wrong == 0 ? good : wrong + " answers are not as due");
        if (wrong != 0) System.exit(1);
    }

    static boolean in(int x, int least, int most) { return least <= x && x <= most; }

    static boolean isWave(int kind) { return kind == 3 || kind == 4 || kind == 6; }

    // ---- what a call answers, THREW where it throws

    static long volt(StampedWires x, int node, int what) {
        try { return x.volt(node, what); } catch (NoSuchElementException e) { return THREW; }
    }

    static long flow(StampedWires x, int part, int what) {
        try { return x.flow(part, what); } catch (NoSuchElementException e) { return THREW; }
    }

    static long charge(StampedWires x, int part, int what) {
        try { return x.charge(part, what); } catch (NoSuchElementException e) { return THREW; }
    }

    static long balance(StampedWires x, int node, int what) {
        try { return x.balance(node, what); } catch (NoSuchElementException e) { return THREW; }
    }

    static long wave(StampedWires x, int part, int time, int what) {
        try { return x.wave(part, time, what); } catch (NoSuchElementException e) { return THREW; }
    }

    static long entry(StampedWires x, int e, int u, int what) {
        try { return x.entry(e, u, what); } catch (NoSuchElementException ex) { return THREW; }
    }

    static long ahead(StampedWires x, int node, int ticks, int method, int what) {
        try { return x.ahead(node, ticks, method, what); } catch (NoSuchElementException e) { return THREW; }
    }

    // ---- doubles by their BITS

    static int upper(double x) { return (int) (Double.doubleToRawLongBits(x) >> 32); }

    static int lower(double x) { return (int) Double.doubleToRawLongBits(x); }

    static void dueVolt(int promise, StampedWires x, int node, double v) {
        due(promise, "volt(" + node + ", 0)", volt(x, node, 0), upper(v));
        due(promise, "volt(" + node + ", 1)", volt(x, node, 1), lower(v));
    }

    static void dueFlow(StampedWires x, int part, double v) {
        due(15, "flow(" + part + ", 0)", flow(x, part, 0), upper(v));
        due(15, "flow(" + part + ", 1)", flow(x, part, 1), lower(v));
    }

    static void dueCharge(StampedWires x, int part, double v) {
        due(16, "charge(" + part + ", 0)", charge(x, part, 0), upper(v));
        due(16, "charge(" + part + ", 1)", charge(x, part, 1), lower(v));
    }

    static void dueEntry(StampedWires x, int e, int u, double v) {
        due(22, "entry(" + e + ", " + u + ", 0)", entry(x, e, u, 0), upper(v));
        due(22, "entry(" + e + ", " + u + ", 1)", entry(x, e, u, 1), lower(v));
    }

    static void dueCounts(int promise, String when, StampedWires x, int from, int... all) {
        for (int k = 0; k < all.length; k++) due(promise, "count(" + (from + k) + ") " + when, x.count(from + k), all[k]);
    }

    static void dueSteps(String when, StampedWires x, int... h) {
        for (int k = 0; k < h.length; k++) due(10, "step() " + k + " " + when, x.step(), h[k]);
    }

    // ---- circuits

    /** A CURRENT (number 0) into node 1 and a RESISTOR (number 1) from it to the GROUND. */
    static StampedWires one(int current, int resistor) {
        StampedWires x = new StampedWires();
        x.part(4, 0, 1, 1);
        x.level(0, current, current);
        x.part(0, 1, 0, resistor);
        return x;
    }

    /** A VOLTAGE right across a JUNCTION whose K is 1. */
    static StampedWires junction(int voltage) {
        StampedWires x = new StampedWires();
        x.part(3, 1, 0, 1);
        x.level(0, voltage, voltage);
        x.part(5, 1, 0, 64);
        return x;
    }

    /** Node 1 charged by a CURRENT that rises to 8 from 0 to 1: CAPACITOR 0 (C is 1), RESISTOR 1, CURRENT 2. */
    static StampedWires charged() {
        StampedWires x = new StampedWires();
        x.part(1, 1, 0, 16);
        x.part(0, 1, 0, 1);
        x.part(4, 0, 1, 1);
        x.level(2, 0, 8);
        x.times(2, 0, 1, 999, 0);
        return x;
    }

    /** Each GAIN into a node with nothing but its leak makes 9999 / 256 * 1048576 of what it goes by. */
    static StampedWires gains() {
        StampedWires x = new StampedWires();
        x.part(4, 0, 1, 1);
        x.part(7, 2, 0, 9999);
        x.control(1, 1, 0);
        x.part(7, 3, 0, 9999);
        x.control(2, 2, 0);
        return x;
    }

    /** One PART of each KIND, each numbered by its KIND, from node 1 to the GROUND. */
    static StampedWires eachKind() {
        StampedWires x = new StampedWires();
        for (int kind = 0; kind < 8; kind++) x.part(kind, 1, 0, 1);
        return x;
    }

    /** VOLTAGE 0 straight across CAPACITOR 1 at node 1: its x is what the WAVE tells. */
    static StampedWires held() {
        StampedWires x = new StampedWires();
        x.part(3, 1, 0, 1);
        x.part(1, 1, 0, 16);
        return x;
    }
}
