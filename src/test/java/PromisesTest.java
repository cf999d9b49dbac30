/** The promises one by one: ordinary inputs, edges, wrong inputs; each number due is worked out from the document. */
public final class PromisesTest extends Due {
    public static void main(String[] args) {
        aNewObject();
        parts();
        values();
        levels();
        timesOfWaves();
        controls();
        methodsAndTolerances();
        restFinds();
        restFailsSingular();
        restFailsStuck();
        restFailsWild();
        restFailsWildAtTheFirst();
        restIsSpared();
        restThatFailsLeavesAll();
        emptyCircuit();
        stepsByEulerAndTrapezoid();
        stepsByGear();
        coilSteps();
        stepsOfWhatGrows();
        stepsGrowAndMeetBreaks();
        stepsAreRefusedAndForced();
        stepThatFails();
        runs();
        clears();
        voltages();
        milliVolts();
        flows();
        charges();
        balances();
        waves();
        breaks();
        toldOfParts();
        counts();
        entries();
        pivotsAndFills();
        orderIsFoundAnew();
        loops();
        floatingNodes();
        islands();
        aheadOfTime();
        shifts();
        stepsAhead();
        zerosAndSmallest();
        end("all promises are kept");
    }

    // ---- the promises

    private static void aNewObject() {
        StampedWires x = new StampedWires();
        int[] first = {0, 0, 0, 0, 0, 0, 1, 1, 16, 0, -1, -1, 0, 0, 0, 0, 0, 0, 0, 0};
        for (int w = 0; w < 20; w++) due(1, "count(" + w + ")", x.count(w), first[w]);
        for (int v = 0; v < 9; v++) dueVolt(1, x, v, 0.0);
        due(1, "step()", x.step(), -1);
        due(1, "islands()", x.islands(), 1);
        due(1, "told(0, 0)", x.told(0, 0), Integer.MIN_VALUE);
    }

    private static void parts() {
        StampedWires x = new StampedWires();
        for (int f : FAR) {
            due(2, "part(" + f + ", 1, 0, 1)", x.part(f, 1, 0, 1), -1);
            due(2, "part(0, " + f + ", 0, 1)", x.part(0, f, 0, 1), -1);
            due(2, "part(0, 0, " + f + ", 1)", x.part(0, 0, f, 1), -1);
            due(2, "part(0, 1, 0, " + f + ")", x.part(0, 1, 0, f), -1);
        }
        due(2, "part(8, 1, 0, 1)", x.part(8, 1, 0, 1), -1);
        due(2, "part(0, 9, 0, 1)", x.part(0, 9, 0, 1), -1);
        due(2, "part(0, 0, 9, 1)", x.part(0, 0, 9, 1), -1);
        due(2, "part(0, 4, 4, 1)", x.part(0, 4, 4, 1), -1);
        due(2, "part(0, 0, 0, 1)", x.part(0, 0, 0, 1), -1);
        due(2, "part(0, 1, 0, 0)", x.part(0, 1, 0, 0), -1);
        due(2, "part(0, 1, 0, 10000)", x.part(0, 1, 0, 10000), -1);
        due(2, "count(0)", x.count(0), 0);
        for (int i = 0; i < 16; i++) due(2, "part " + i, x.part(i % 8, 8, i % 8, i % 2 == 0 ? 1 : 9999), i);
        due(2, "the 17th part", x.part(0, 1, 0, 1), -1);
        due(2, "count(0)", x.count(0), 16);

        StampedWires y = one(8, 4);
        y.rest();
        due(2, "a part that is none", y.part(0, 1, 1, 1), -1);
        due(2, "count(4) behind it", y.count(4), 1);
        due(2, "fills() behind it", y.fills(), 0);
        y.part(0, 1, 0, 1);
        due(2, "count(4) behind a part", y.count(4), 0);
        due(2, "fills() behind a part", y.fills(), -1);
        due(2, "step() behind a part", y.step(), -1);
    }

    private static void values() {
        StampedWires x = one(8, 4);
        due(3, "value(1, 1)", x.value(1, 1), true);
        due(3, "value(1, 9999)", x.value(1, 9999), true);
        due(3, "value(1, 0)", x.value(1, 0), false);
        due(3, "value(1, 10000)", x.value(1, 10000), false);
        due(3, "value(2, 5)", x.value(2, 5), false);
        due(3, "value(0, 5)", x.value(0, 5), true);
        for (int f : FAR) {
            due(3, "value(" + f + ", 5)", x.value(f, 5), false);
            due(3, "value(1, " + f + ")", x.value(1, f), false);
        }
        due(3, "told(1, 3)", x.told(1, 3), 9999);
        x.value(1, 4);
        x.rest();
        dueVolt(3, x, 1, 8 / (LEAK + 0.25));
        settleDown(x);
        due(3, "count(5)", x.count(5), 0);
        due(3, "count(6)", x.count(6), 4);
        x.value(1, 0);
        due(3, "count(5) behind a wrong value", x.count(5), 0);
        due(3, "value(1, 4) as it was", x.value(1, 4), true);
        due(3, "count(5) behind a value", x.count(5), 1);
        due(3, "count(6) behind a value", x.count(6), 1);
        due(3, "count(4) behind a value", x.count(4), 1);
        due(3, "fills() behind a value", x.fills(), 0);
        x.value(1, 2);
        due(3, "step()", x.step(), 1);
        dueVolt(3, x, 1, 8 / (LEAK + 0.5));
    }

    /** Three FRESH steps, for the BREAKS 1 and 2, then one whose WANTED is 2, then one of 2. */
    private static void settleDown(StampedWires x) {
        int[] h = {1, 1, 1, 1, 2};
        for (int e : h) due(10, "step()", x.step(), e);
    }

    private static void levels() {
        StampedWires x = new StampedWires();
        for (int kind = 0; kind < 8; kind++) {
            x.part(kind, 1, 0, 1);
            due(4, "level of the kind " + kind, x.level(kind, -999, 999), kind == 3 || kind == 4 || kind == 6);
        }
        due(4, "told(3, 4)", x.told(3, 4), -999);
        due(4, "told(3, 5)", x.told(3, 5), 999);
        due(4, "level(3, -1000, 0)", x.level(3, -1000, 0), false);
        due(4, "level(3, 1000, 0)", x.level(3, 1000, 0), false);
        due(4, "level(3, 0, -1000)", x.level(3, 0, -1000), false);
        due(4, "level(3, 0, 1000)", x.level(3, 0, 1000), false);
        due(4, "level(8, 0, 0)", x.level(8, 0, 0), false);
        due(4, "level(-1, 0, 0)", x.level(-1, 0, 0), false);
        due(4, "level(3, 999, -999)", x.level(3, 999, -999), true);
        due(4, "told(3, 4)", x.told(3, 4), 999);

        StampedWires y = one(8, 4);
        y.rest();
        settleDown(y);
        due(4, "level(0, 8, 8) as it was", y.level(0, 8, 8), true);
        due(4, "count(5)", y.count(5), 1);
        due(4, "count(6)", y.count(6), 1);
        y.level(0, 6, 6);
        dueVolt(4, y, 1, 8 / (LEAK + 0.25));
        y.step();
        dueVolt(4, y, 1, 6 / (LEAK + 0.25));
    }

    private static void timesOfWaves() {
        StampedWires x = new StampedWires();
        for (int kind = 0; kind < 8; kind++) {
            x.part(kind, 1, 0, 1);
            due(5, "times of the kind " + kind, x.times(kind, 5, 2, 3, 7), kind == 3 || kind == 4 || kind == 6);
        }
        int[][] good = {{0, 1, 0, 0}, {0, 1, 0, 2}, {9999, 999, 999, 0}, {9999, 999, 999, 2997}, {9999, 999, 999, 9999}};
        int[][] bad = {{-1, 1, 0, 0}, {10000, 1, 0, 0}, {0, 0, 0, 0}, {0, 1000, 0, 0}, {0, 1, -1, 0}, {0, 1, 1000, 0}, {0, 1, 0, 1},
            {0, 1, 0, -1}, {0, 2, 3, 6}, {0, 999, 999, 2996}, {0, 1, 0, 10000}, {0, Integer.MAX_VALUE, 0, 0},
            {0, 1, Integer.MIN_VALUE, 5}, {0, 1, 0, Integer.MAX_VALUE}, {0, 1, 0, Integer.MIN_VALUE}};
        for (int[] t : bad) due(5, "wrong times " + java.util.Arrays.toString(t), x.times(4, t[0], t[1], t[2], t[3]), false);
        for (int w = 6; w < 10; w++) due(5, "told(4, " + w + ")", x.told(4, w), new int[] {5, 2, 3, 7}[w - 6]);
        for (int[] t : good) {
            due(5, "times " + java.util.Arrays.toString(t), x.times(4, t[0], t[1], t[2], t[3]), true);
            for (int w = 6; w < 10; w++) due(5, "told(4, " + w + ")", x.told(4, w), t[w - 6]);
        }
        due(5, "times(8, ..)", x.times(8, 0, 1, 0, 0), false);
        due(5, "times(-1, ..)", x.times(-1, 0, 1, 0, 0), false);

        StampedWires y = one(8, 4);
        y.rest();
        settleDown(y);
        due(5, "times(0, 20, 1, 0, 0)", y.times(0, 20, 1, 0, 0), true);
        due(5, "count(5)", y.count(5), 1);
        due(5, "count(6)", y.count(6), 1);
    }

    private static void controls() {
        StampedWires x = new StampedWires();
        for (int kind = 0; kind < 8; kind++) {
            x.part(kind, 1, 0, 256);
            due(6, "control of the kind " + kind, x.control(kind, 2, 3), kind == 7);
        }
        due(6, "count(2)", x.count(2), 14);
        int[][] bad = {{7, -1, 0}, {7, 9, 0}, {7, 0, -1}, {7, 0, 9}, {8, 0, 0}, {-1, 0, 0}};
        for (int[] c : bad) due(6, "wrong control", x.control(c[0], c[1], c[2]), false);
        due(6, "told(7, 10)", x.told(7, 10), 2);
        due(6, "told(7, 11)", x.told(7, 11), 3);
        due(6, "control(7, 8, 8)", x.control(7, 8, 8), true);
        due(6, "count(2)", x.count(2), 2 + 256);
        due(6, "control(7, 0, 0)", x.control(7, 0, 0), true);
        due(6, "count(2)", x.count(2), 2);

        StampedWires y = one(8, 4);
        y.part(7, 1, 0, 256);
        y.rest();
        due(6, "count(4)", y.count(4), 1);
        due(6, "a wrong control", y.control(2, 9, 0), false);
        due(6, "count(4) behind it", y.count(4), 1);
        due(6, "control(2, 0, 0) as it was", y.control(2, 0, 0), true);
        due(6, "count(4) behind it", y.count(4), 0);
        due(6, "fills() behind it", y.fills(), -1);
        y.control(2, 1, 0);
        y.rest();
        dueVolt(6, y, 1, 8 / (LEAK + 0.25 + 1));
    }

    private static void methodsAndTolerances() {
        StampedWires x = one(8, 4);
        x.rest();
        settleDown(x);
        for (int m = 0; m < 3; m++) {
            due(7, "method(" + m + ")", x.method(m), true);
            due(7, "count(7)", x.count(7), m);
        }
        due(7, "method(3)", x.method(3), false);
        for (int f : FAR) due(7, "method(" + f + ")", x.method(f), false);
        due(7, "count(7)", x.count(7), 2);
        due(8, "tolerance(1)", x.tolerance(1), true);
        due(8, "tolerance(1024)", x.tolerance(1024), true);
        due(8, "tolerance(0)", x.tolerance(0), false);
        due(8, "tolerance(1025)", x.tolerance(1025), false);
        for (int f : FAR) due(8, "tolerance(" + f + ")", x.tolerance(f), false);
        due(8, "count(8)", x.count(8), 1024);
        due(7, "count(5): neither is told of a part", x.count(5), 0);
        due(8, "count(6): neither is told of a part", x.count(6), 4);
    }

    private static void restFinds() {
        StampedWires x = one(8, 4);
        due(9, "rest()", x.rest(), 0);
        dueVolt(9, x, 1, 8 / (LEAK + 0.25));
        int[] behind = {2, 1, 2, 0, 1, 1, 1, 1, 16, 0, -1, -1, 1, 1, 0, 0, 0, 0, 0, 0};
        for (int w = 0; w < 20; w++) due(9, "count(" + w + ")", x.count(w), behind[w]);
        x.step();
        x.step();
        due(9, "rest() again", x.rest(), 0);
        due(9, "count(3)", x.count(3), 0);
        due(9, "count(13)", x.count(13), 1);
        due(9, "count(12)", x.count(12), 4);

        // A SWITCH is open where its WAVE is not above 0; a CAPACITOR at REST leads nothing, a COIL everything.
        StampedWires y = one(8, 4);
        y.part(6, 1, 0, 32);
        y.part(1, 1, 0, 99);
        due(9, "rest()", y.rest(), 0);
        dueVolt(9, y, 1, 8 / (LEAK + 0.25 + 1 / 65536.0));
        y.level(2, 1, 1);
        y.rest();
        dueVolt(9, y, 1, 8 / (LEAK + 0.25 + 0.5));
        y.part(2, 1, 0, 5);
        y.rest();
        due(9, "milli(1)", y.milli(1), 0);
        dueFlow(y, 4, 8.0);
    }

    private static void restFailsSingular() {
        StampedWires x = new StampedWires();
        x.part(3, 1, 0, 1);
        x.part(3, 1, 0, 1);
        due(9, "rest() of two VOLTAGES side by side", x.rest(), 1);
        due(9, "count(9)", x.count(9), 1);
        // (1, 0) comes first, then (0, 1) or (0, 2), of these (0, 1); the equation of the UNKNOWN 2 is left.
        due(9, "count(10)", x.count(10), 2);
        due(9, "count(4)", x.count(4), 0);
        due(9, "count(12)", x.count(12), 1);
        due(9, "count(13)", x.count(13), 0);
        due(9, "count(18): SINGULAR is not spared", x.count(18), 0);
        due(24, "fills()", x.fills(), -1);
        due(23, "pivot(0, 0)", x.pivot(0, 0), -1);
        dueEntry(x, 0, 0, LEAK);
    }

    private static void restFailsStuck() {
        StampedWires x = junction(999);
        due(9, "rest() of a JUNCTION at 999", x.rest(), 2);
        due(9, "count(9)", x.count(9), 2);
        // The voltage is there from the first ROUND on; it is the current that changes in each.
        due(9, "count(10)", x.count(10), 1);
        due(9, "count(12)", x.count(12), 32);
        due(9, "count(18)", x.count(18), 1);
        due(9, "count(19)", x.count(19), 32);
        due(9, "count(4)", x.count(4), 0);
        due(9, "count(13)", x.count(13), 1);
    }

    private static void restFailsWild() {
        StampedWires x = gains();
        x.level(0, 999, 999);
        due(9, "rest() of GAINS in a row", x.rest(), 3);
        due(9, "count(9)", x.count(9), 3);
        due(9, "count(10)", x.count(10), 2);
        due(9, "count(12)", x.count(12), 2);
        due(9, "count(18)", x.count(18), 1);
        due(9, "fills(): the ORDER stays", x.fills(), 0);

        // Just at 2 to the power of 60: 1 into a leak is 2 to 20, by a GAIN of 1 into a leak 2 to 40, then 2 to 60.
        StampedWires y = gains();
        y.value(1, 256);
        y.value(2, 256);
        y.level(0, 1, 1);
        due(9, "rest() at 2 to the power of 60", y.rest(), 3);
        due(9, "count(10)", y.count(10), 2);
        y.value(2, 255);
        due(9, "rest() below 2 to the power of 60", y.rest(), 0);
        dueVolt(9, y, 3, 255 / 256.0 * 1152921504606846976.0);
        due(14, "milli(3)", y.milli(3), Integer.MAX_VALUE);
        due(14, "milli(2)", y.milli(2), Integer.MIN_VALUE);
        y.level(0, 0, 0);
        y.value(2, 256);
        y.level(0, -2, 0);
        due(9, "rest() below 0", y.rest(), 3);
        due(9, "count(18)", y.count(18), 2);
    }

    private static void restFailsWildAtTheFirst() {
        StampedWires x = new StampedWires();
        x.part(4, 0, 3, 1);
        x.level(0, 999, 999);
        x.part(7, 2, 0, 9999);
        x.control(1, 3, 0);
        x.part(7, 1, 0, 9999);
        x.control(2, 2, 0);
        due(9, "rest()", x.rest(), 3);
        due(9, "count(10): node 1 is the UNKNOWN 0", x.count(10), 0);
    }

    private static void restIsSpared() {
        StampedWires x = junction(20);
        due(9, "rest() of a JUNCTION at 20", x.rest(), 0);
        dueVolt(9, x, 1, 20.0);
        due(9, "count(18)", x.count(18), 1);
        // 16 ROUNDS and no end; then 4 LIMITED ones, one that arrives, one that changes the current, one that changes nothing.
        due(9, "count(12)", x.count(12), 16 + 4 * 7);
        due(9, "count(19)", x.count(19), 16 + 4 * 4);
        due(9, "count(9)", x.count(9), 0);
        due(9, "count(10)", x.count(10), -1);

        StampedWires y = junction(5);
        due(9, "rest() of a JUNCTION at 5", y.rest(), 0);
        due(9, "count(12)", y.count(12), 7);
        due(9, "count(19)", y.count(19), 4);
        due(9, "count(18)", y.count(18), 0);
        y.level(0, -5, -5);
        due(9, "rest() of a JUNCTION at -5", y.rest(), 0);
        // From 0 down to -5; g is 0 all along, so the UNKNOWNS stay from the second ROUND on.
        due(9, "count(12)", y.count(12), 7 + 5);
        due(9, "count(19)", y.count(19), 4 + 4);
    }

    private static void restThatFailsLeavesAll() {
        StampedWires x = junction(5);
        x.rest();
        x.step();
        x.step();
        x.step();
        x.step();
        x.level(0, 999, 999);
        due(9, "count(3)", x.count(3), 4);
        due(9, "rest() that fails", x.rest(), 2);
        due(9, "count(4)", x.count(4), 1);
        due(9, "count(3)", x.count(3), 4);
        dueVolt(9, x, 1, 5.0);
        x.level(0, 5, 5);
        int rounds = x.count(12);
        due(9, "step() goes on from the UNKNOWNS and the guess 5", x.step(), 1);
        due(9, "count(12): nothing changes, one ROUND does", x.count(12), rounds + 1);
        x.level(0, 6, 6);
        due(9, "step() goes on from the guess 5", x.step(), 1);
        // One arrives at 6, one changes the current, one changes nothing.
        due(9, "count(12)", x.count(12), rounds + 4);
    }

    private static void emptyCircuit() {
        StampedWires x = new StampedWires();
        due(9, "rest() without any PART", x.rest(), 0);
        due(24, "fills()", x.fills(), 0);
        due(23, "pivot(0, 0)", x.pivot(0, 0), -1);
        due(21, "count(12)", x.count(12), 1);
        due(21, "count(13)", x.count(13), 1);
        due(22, "entry(0, 0, 0)", entry(x, 0, 0, 0), THREW);
        int[] h = {1, 1, 2, 4, 8, 16, 32, 64, 64};
        for (int e : h) due(10, "step()", x.step(), e);
        due(21, "count(13)", x.count(13), 1);
        due(21, "count(3)", x.count(3), 192);
    }

    private static void stepsByEulerAndTrapezoid() {
        StampedWires x = charged();
        x.rest();
        dueVolt(10, x, 1, 0.0);
        double euler = LEAK + 1.0 + 1.0;
        double v1 = 8 / euler;
        due(10, "step()", x.step(), 1);
        dueVolt(10, x, 1, v1);
        due(10, "count(5) at the BREAK 1", x.count(5), 1);
        double v2 = (0 - (0 - v1) + 8) / euler;
        double d2 = 1.0 * v2 + (0 - v1);
        due(10, "step()", x.step(), 1);
        dueVolt(10, x, 1, v2);
        dueFlow(x, 0, d2);
        due(10, "count(5) behind the BREAK", x.count(5), 0);
        due(10, "count(6)", x.count(6), 1);
        due(10, "count(11): none is FORCED when FRESH", x.count(11), -1);
        due(10, "count(17)", x.count(17), 0);
        double b = 0 - 2.0 * v2 - d2;
        double v3 = (0 - b + 8) / (LEAK + 2.0 + 1.0);
        boolean forced = Math.abs(v3 - (v2 + (v2 - v1) / 1 * 1)) > 16 / 1024.0 * (1 + Math.abs(v3));
        due(10, "step()", x.step(), 1);
        dueVolt(10, x, 1, v3);
        dueFlow(x, 0, 2.0 * v3 + b);
        due(10, "the error is more than its bound", forced, true);
        due(10, "count(17)", x.count(17), 1);
        due(10, "count(11)", x.count(11), 0);
        due(10, "count(6)", x.count(6), 1);
        due(10, "count(16)", x.count(16), 0);
        due(10, "count(14)", x.count(14), 3);
        due(10, "count(15)", x.count(15), 3);
        x.method(0);
        double v4 = (0 - (0 - v3) + 8) / euler;
        x.step();
        dueVolt(7, x, 1, v4);
    }

    private static void stepsByGear() {
        StampedWires x = charged();
        x.method(2);
        x.tolerance(1024);
        x.rest();
        double euler = LEAK + 1.0 + 1.0;
        double v1 = 8 / euler;
        double v2 = (0 - (0 - v1) + 8) / euler;
        x.step();
        x.step();
        dueVolt(10, x, 1, v2);
        double a = (1 + 2 * 1.0) / (1 + 1.0) / 1;
        double b = (0 - (1 + 1.0) * v2 + 1.0 * 1.0 / (1 + 1.0) * v1) / 1;
        double v3 = (0 - b + 8) / (LEAK + a + 1.0);
        due(10, "step()", x.step(), 1);
        dueVolt(10, x, 1, v3);
        dueFlow(x, 0, a * v3 + b);
        due(10, "count(6): the error is small by such a TOLERANCE", x.count(6), 2);
        double a2 = (1 + 2 * 2.0) / (1 + 2.0) / 2;
        double b2 = (0 - (1 + 2.0) * v3 + 2.0 * 2.0 / (1 + 2.0) * v2) / 2;
        double v5 = (0 - b2 + 8) / (LEAK + a2 + 1.0);
        due(10, "step()", x.step(), 2);
        dueVolt(10, x, 1, v5);
        dueFlow(x, 0, a2 * v5 + b2);
    }

    /** A COIL (L is 2) straight across a VOLTAGE of 4 from the time 1 on: its current grows by 2 a tick. */
    private static void coilSteps() {
        StampedWires x = new StampedWires();
        x.part(3, 1, 0, 1);
        x.level(0, 0, 4);
        x.times(0, 0, 1, 999, 0);
        x.part(0, 1, 2, 1);
        x.part(2, 2, 0, 32);
        due(21, "count(1)", x.count(1), 4);
        due(20, "told(2, 12)", x.told(2, 12), 3);
        due(9, "rest()", x.rest(), 0);
        x.step();
        // Node 2 by EULER: the leak aside, 4 is i * 1 + 2 * i.
        due(10, "milli(2)", x.milli(2), 2666);
        due(10, "flow of the coil", (long) (1000 * Double.longBitsToDouble((long) x.flow(2, 0) << 32)), 1333);
        long bits = (long) x.flow(2, 0) << 32 | x.flow(2, 1) & 0xffffffffL;
        double charge = 2 * Double.longBitsToDouble(bits);
        due(16, "charge(2, 0)", charge(x, 2, 0), upper(charge));
        due(16, "charge(2, 1)", charge(x, 2, 1), lower(charge));
        // (3, 3) is what the COIL alone adds: - L * A; A is 1.
        dueEntry(x, 3, 3, -2.0);
    }

    /** A GAIN feeds what a CAPACITOR holds: it grows faster and faster, so STEPS that have grown are REFUSED. */
    private static void stepsOfWhatGrows() {
        StampedWires x = new StampedWires();
        x.part(1, 1, 0, 9999);
        x.part(7, 0, 1, 9999);
        x.control(1, 1, 0);
        x.part(4, 0, 1, 1);
        x.level(2, 0, 1);
        x.times(2, 0, 1, 999, 0);
        x.method(0);
        x.rest();
        double c = 9999 / 16.0, m = 9999 / 256.0, x1 = 0, x2 = 0;
        int h1 = 1, wanted = 1, refused = 0, forced = 0, tries = 0;
        x.step();
        x1 = (0 - c * 0 + 1) / (LEAK + c - m);
        dueVolt(10, x, 1, x1);
        for (int k = 0; k < 40; k++) {
            boolean fresh = k == 0;
            int h = fresh ? 1 : wanted;
            double v, error, bound;
            while (true) {
                tries++;
                double a = 1.0 / h;
                double b = 0 - a * x1;
                v = (0 - c * b + 1) / (LEAK + c * a - m);
                error = Math.abs(v - (x1 + (x1 - x2) / h1 * h));
                bound = 16 / 1024.0 * (1 + Math.abs(v));
                if (fresh || error <= bound || h == 1) break;
                refused++;
                h = h / 2;
            }
            if (!fresh && error > bound) forced++;
            wanted = !fresh && error * 4 <= bound ? Math.min(64, 2 * h) : h;
            x2 = x1;
            x1 = v;
            h1 = h;
            due(10, "step()", x.step(), h);
            dueVolt(10, x, 1, v);
            due(10, "count(6)", x.count(6), wanted);
            due(10, "count(16)", x.count(16), refused);
            due(10, "count(17)", x.count(17), forced);
            due(10, "count(14)", x.count(14), tries + 1);
        }
        due(10, "some were REFUSED", refused > 0, true);
    }

    private static void stepsGrowAndMeetBreaks() {
        StampedWires x = one(8, 4);
        x.times(0, 3, 2, 20, 0);
        x.rest();
        // BREAKS 3, 5, 25, 27. FRESH at 0; at 1 WANTED is 1, at 2 it is 2 but 3 is near.
        int[] h = {1, 1, 1, 1, 1, 1, 1, 2, 4, 8, 4, 1, 1, 1, 1, 2, 4, 8, 16, 32, 64, 64};
        int[] time = {1, 2, 3, 4, 5, 6, 7, 9, 13, 21, 25, 26, 27, 28, 29, 31, 35, 43, 59, 91, 155, 219};
        for (int k = 0; k < h.length; k++) {
            due(10, "step " + k, x.step(), h[k]);
            due(10, "time " + k, x.count(3), time[k]);
            boolean fresh = time[k] == 3 || time[k] == 5 || time[k] == 25 || time[k] == 27;
            due(10, "FRESH " + k, x.count(5), fresh ? 1 : 0);
            if (fresh) due(10, "WANTED " + k, x.count(6), 1);
        }
        due(10, "count(6)", x.count(6), 64);
    }

    private static void stepsAreRefusedAndForced() {
        // The CAPACITOR that is told second alone is moved: it is the one that is FORCED.
        StampedWires y = new StampedWires();
        y.part(1, 2, 0, 16);
        y.part(1, 1, 0, 16);
        y.part(0, 1, 0, 1);
        y.part(4, 0, 1, 1);
        y.level(3, 0, 8);
        y.times(3, 0, 1, 999, 0);
        y.rest();
        y.run(3);
        due(10, "count(11)", y.count(11), 1);
        due(10, "count(17)", y.count(17), 1);
        y.rest();
        due(21, "count(11) behind a REST: the last STEP is the same", y.count(11), 1);
        y.step();
        due(21, "count(11) behind a STEP that was FRESH", y.count(11), -1);

        // ROUNDS that fail make a longer STEP shorter: the JUNCTION is STUCK once 18 volts more come at once.
        StampedWires z = junction(0);
        z.level(0, 0, 900);
        z.times(0, 10, 100, 0, 0);
        z.rest();
        due(10, "run(10)", z.run(10), 10);
        due(10, "step()", z.step(), 1);
        due(10, "step()", z.step(), 1);
        due(10, "count(6)", z.count(6), 2);
        int tries = z.count(14);
        due(10, "step() of 2, REFUSED", z.step(), 1);
        due(10, "count(14)", z.count(14), tries + 2);
        due(10, "count(16)", z.count(16), 1);
        due(10, "count(9): taken", z.count(9), 0);
        due(10, "count(10): taken", z.count(10), -1);
    }

    private static void stepThatFails() {
        StampedWires x = junction(5);
        x.level(0, 5, 500);
        x.times(0, 5, 1, 10, 0);
        x.rest();
        due(11, "run(60) till one fails", x.run(60), 5);
        due(10, "count(9)", x.count(9), 2);
        due(10, "count(10)", x.count(10), 1);
        due(10, "count(3)", x.count(3), 5);
        due(10, "count(4)", x.count(4), 1);
        due(10, "count(5)", x.count(5), 1);
        dueVolt(10, x, 1, 5.0);
        int tries = x.count(14);
        int taken = x.count(15);
        due(10, "step()", x.step(), 0);
        due(11, "run(1)", x.run(1), 0);
        due(10, "count(14)", x.count(14), tries + 2);
        due(10, "count(15)", x.count(15), taken);
        due(10, "count(16): at h 1 none is REFUSED", x.count(16), 0);
        due(28, "ahead(1, 1, -1, 0)", ahead(x, 1, 1, -1, 0), THREW);
        due(30, "steps(1, 0)", x.steps(1, 0), -1);
        due(29, "shift(1, 1): REST is at the time 0", x.shift(1, 1), 0);
        x.level(0, 5, 5);
        due(10, "step()", x.step(), 1);
        due(10, "count(9)", x.count(9), 0);
    }

    private static void runs() {
        StampedWires x = one(8, 4);
        due(11, "run(5) ahead of REST", x.run(5), -1);
        x.rest();
        due(11, "run(0)", x.run(0), -1);
        due(11, "run(61)", x.run(61), -1);
        for (int f : FAR) due(11, "run(" + f + ")", x.run(f), -1);
        due(11, "count(3)", x.count(3), 0);
        due(11, "run(1)", x.run(1), 1);
        due(11, "run(5): 1, 1, 1, 2", x.run(5), 5);
        due(11, "run(5): 4, 8", x.run(5), 12);
        due(11, "run(60): 16, 32, 64", x.run(60), 112);
        due(11, "count(3)", x.count(3), 130);
        due(11, "count(15)", x.count(15), 10);
    }

    private static void clears() {
        StampedWires x = junction(20);
        x.method(2);
        x.tolerance(5);
        x.rest();
        x.run(9);
        x.level(0, 999, 999);
        x.rest();
        due(12, "clear()", x.clear(), 2);
        int[] first = {0, 0, 0, 0, 0, 0, 1, 1, 16, 0, -1, -1, 0, 0, 0, 0, 0, 0, 0, 0};
        for (int w = 0; w < 20; w++) due(12, "count(" + w + ")", x.count(w), first[w]);
        due(12, "fills()", x.fills(), -1);
        due(12, "entry(0, 0, 0)", entry(x, 0, 0, 0), THREW);
        due(12, "told(0, 0)", x.told(0, 0), Integer.MIN_VALUE);
        due(12, "clear()", x.clear(), 0);
        due(12, "part", x.part(6, 3, 0, 7), 0);
        for (int w = 4; w < 12; w++) due(12, "told(0, " + w + ")", x.told(0, w), w == 7 ? 1 : 0);
        x.rest();
        dueVolt(12, x, 1, 0.0);

        StampedWires y = charged();
        y.rest();
        y.run(3);
        due(12, "count(11)", y.count(11), 0);
        due(12, "clear()", y.clear(), 3);
        due(12, "count(11) behind it", y.count(11), -1);
        y.part(7, 1, 0, 1);
        y.control(0, 2, 3);
        y.clear();
        y.part(7, 1, 0, 1);
        due(12, "told(0, 10): c is as at first", y.told(0, 10), 0);
        due(12, "told(0, 11): d is as at first", y.told(0, 11), 0);
        due(12, "count(2)", y.count(2), 2);
    }

    private static void voltages() {
        StampedWires x = one(8, 4);
        dueVolt(13, x, 1, 0.0);
        x.rest();
        dueVolt(13, x, 1, 8 / (LEAK + 0.25));
        for (int v : new int[] {0, 2, 8}) dueVolt(13, x, v, 0.0);
        for (int f : new int[] {-1, 9, Integer.MIN_VALUE, Integer.MAX_VALUE}) due(13, "volt(" + f + ", 0)", volt(x, f, 0), THREW);
        for (int f : new int[] {-1, 2, Integer.MIN_VALUE, Integer.MAX_VALUE}) due(13, "volt(1, " + f + ")", volt(x, 1, f), THREW);
        x.part(0, 5, 6, 1);
        dueVolt(13, x, 1, 0.0);
        due(13, "volt(9, 0)", volt(x, 9, 0), THREW);
        x.clear();
        x.part(4, 1, 0, 1);
        x.level(0, 3, 3);
        x.part(0, 1, 0, 3);
        x.rest();
        dueVolt(13, x, 1, -3 / (LEAK + 1.0 / 3));
    }

    private static void milliVolts() {
        StampedWires x = one(8, 4);
        due(14, "milli(1)", x.milli(1), 0);
        x.rest();
        due(14, "milli(1)", x.milli(1), (int) (1000 * (8 / (LEAK + 0.25))));
        due(14, "milli(0)", x.milli(0), 0);
        due(14, "milli(8)", x.milli(8), 0);
        due(14, "milli(9)", x.milli(9), Integer.MIN_VALUE);
        for (int f : FAR) due(14, "milli(" + f + ")", x.milli(f), Integer.MIN_VALUE);
        x.level(0, -8, -8);
        x.rest();
        due(14, "milli(1)", x.milli(1), -31999);
        x.value(1, 9999);
        x.level(0, 999, 999);
        x.rest();
        due(14, "milli(1) beyond the ints", x.milli(1), Integer.MAX_VALUE);
    }

    private static void flows() {
        StampedWires x = new StampedWires();
        x.part(3, 1, 0, 1);
        x.level(0, 6, 6);
        x.part(0, 1, 0, 3);
        x.part(6, 1, 0, 32);
        x.part(5, 1, 0, 128);
        x.part(5, 0, 1, 128);
        x.part(4, 1, 0, 1);
        x.level(5, 2, 3);
        x.part(7, 0, 2, 128);
        x.control(6, 1, 0);
        x.part(0, 2, 0, 2);
        x.part(1, 1, 0, 4);
        due(15, "flow(1, 0) ahead of REST", flow(x, 1, 0), THREW);
        due(9, "rest()", x.rest(), 0);
        dueFlow(x, 1, 1.0 / 3 * 6);
        dueFlow(x, 2, 1 / 65536.0 * 6);
        dueFlow(x, 3, 2.0 * 6 * 6);
        dueFlow(x, 4, 0.0);
        dueFlow(x, 5, 2.0);
        dueFlow(x, 6, 0.5 * (6.0 - 0.0));
        dueFlow(x, 7, 0.5 * (3 / (LEAK + 0.5)));
        dueFlow(x, 8, 0.0);
        x.step();
        dueFlow(x, 5, 3.0);
        x.level(2, 1, 1);
        dueFlow(x, 2, 0.5 * 6);
        x.value(1, 2);
        dueFlow(x, 1, 0.5 * 6);
        due(15, "flow(9, 0)", flow(x, 9, 0), THREW);
        for (int f : FAR) due(15, "flow(" + f + ", 0)", flow(x, f, 0), THREW);
        due(15, "flow(1, 2)", flow(x, 1, 2), THREW);
        due(15, "flow(1, -1)", flow(x, 1, -1), THREW);
        x.part(0, 1, 0, 1);
        due(15, "flow(1, 0) behind a part", flow(x, 1, 0), THREW);
    }

    private static void charges() {
        StampedWires x = charged();
        due(16, "charge(0, 0) ahead of REST", charge(x, 0, 0), THREW);
        x.rest();
        due(16, "charge(0, 0)", charge(x, 0, 0), 0);
        x.step();
        double v1 = 8 / (LEAK + 1.0 + 1.0);
        due(16, "charge(0, 0)", charge(x, 0, 0), upper(1.0 * v1));
        due(16, "charge(0, 1)", charge(x, 0, 1), lower(1.0 * v1));
        x.value(0, 40);
        due(16, "charge(0, 0) by a greater C", charge(x, 0, 0), upper(2.5 * v1));
        for (int p : new int[] {1, 2, 3, -1, Integer.MAX_VALUE}) due(16, "charge(" + p + ", 0)", charge(x, p, 0), THREW);
        due(16, "charge(0, 2)", charge(x, 0, 2), THREW);
        due(16, "charge(0, -1)", charge(x, 0, -1), THREW);
    }

    private static void balances() {
        StampedWires x = one(8, 4);
        due(17, "balance(1, 0) ahead of REST", balance(x, 1, 0), THREW);
        x.rest();
        double v = 8 / (LEAK + 0.25);
        double sum = LEAK * v - 8 + 0.25 * v;
        due(17, "balance(1, 0)", balance(x, 1, 0), upper(sum));
        due(17, "balance(1, 1)", balance(x, 1, 1), lower(sum));
        x.level(0, 5, 5);
        double other = LEAK * v - 5 + 0.25 * v;
        due(17, "balance(1, 0) by another WAVE", balance(x, 1, 0), upper(other));
        due(17, "balance(1, 1) by another WAVE", balance(x, 1, 1), lower(other));
        for (int n : new int[] {0, 2, 8, 9, -1, 33, Integer.MIN_VALUE, Integer.MAX_VALUE}) due(17, "balance(" + n + ", 0)", balance(x, n, 0), THREW);
        due(17, "balance(1, 2)", balance(x, 1, 2), THREW);
        due(17, "balance(1, -1)", balance(x, 1, -1), THREW);
    }

    private static void dueWave(StampedWires x, int time, double v) {
        due(18, "wave(0, " + time + ", 0)", wave(x, 0, time, 0), upper(v));
        due(18, "wave(0, " + time + ", 1)", wave(x, 0, time, 1), lower(v));
    }

    private static void waves() {
        StampedWires x = new StampedWires();
        x.part(6, 1, 0, 1);
        x.level(0, 2, 9);
        x.times(0, 4, 3, 5, 20);
        dueWave(x, 0, 2);
        dueWave(x, 3, 2);
        dueWave(x, 4, 2);
        dueWave(x, 5, 2 + 7 / 3.0);
        dueWave(x, 6, 2 + 14 / 3.0);
        dueWave(x, 7, 9);
        dueWave(x, 11, 9);
        dueWave(x, 12, 9);
        dueWave(x, 13, 9 - 7 / 3.0);
        dueWave(x, 14, 9 - 14 / 3.0);
        dueWave(x, 15, 2);
        dueWave(x, 23, 2);
        dueWave(x, 25, 2 + 7 / 3.0);
        dueWave(x, 99999, 2);
        dueWave(x, 99991, 9);
        x.times(0, 4, 3, 5, 0);
        dueWave(x, 25, 2);
        x.times(0, 0, 1, 0, 2);
        dueWave(x, 1, 9);
        dueWave(x, 2, 2);
        dueWave(x, 99999, 9);
        for (int t : new int[] {-1, 100000, Integer.MIN_VALUE, Integer.MAX_VALUE}) due(18, "wave(0, " + t + ", 0)", wave(x, 0, t, 0), THREW);
        for (int p : new int[] {-1, 1, Integer.MAX_VALUE}) due(18, "wave(" + p + ", 0, 0)", wave(x, p, 0, 0), THREW);
        for (int w : new int[] {-1, 2}) due(18, "wave(0, 0, " + w + ")", wave(x, 0, 0, w), THREW);
        for (int kind = 0; kind < 8; kind++) {
            int p = x.part(kind, 1, 0, 1);
            due(18, "wave of the kind " + kind, wave(x, p, 5, 0), kind == 3 || kind == 4 || kind == 6 ? 0 : THREW);
        }
    }

    private static void breaks() {
        StampedWires x = new StampedWires();
        x.part(0, 1, 0, 1);
        due(19, "breaks(0, 0) without a WAVE", x.breaks(0, 0), -1);
        x.part(3, 1, 0, 1);
        x.times(1, 10, 2, 3, 0);
        x.part(6, 2, 0, 1);
        x.times(2, 12, 4, 0, 8);
        // 10, 12, 15, 17 and 12, 16, 20, 24, on and on.
        int[] all = {10, 12, 15, 16, 17, 20, 24, 28, 32, 36, 40, 44, 48, 52, 56, 60, 64, 68, 72, 76, 80};
        for (int i = 0; i < 21; i++) due(19, "breaks(0, " + i + ")", x.breaks(0, i), all[i]);
        due(19, "breaks(12, 0): that one, too", x.breaks(12, 0), 12);
        due(19, "breaks(13, 0)", x.breaks(13, 0), 15);
        due(19, "breaks(9999, 0)", x.breaks(9999, 0), 10000);
        due(19, "breaks(9999, 20)", x.breaks(9999, 20), 10080);
        for (int t : new int[] {-1, 10000, Integer.MIN_VALUE, Integer.MAX_VALUE}) due(19, "breaks(" + t + ", 0)", x.breaks(t, 0), -1);
        for (int i : new int[] {-1, 21, Integer.MIN_VALUE, Integer.MAX_VALUE}) due(19, "breaks(0, " + i + ")", x.breaks(0, i), -1);
        x.times(2, 12, 4, 0, 0);
        due(19, "breaks(0, 5)", x.breaks(0, 5), 20);
        due(19, "breaks(0, 6)", x.breaks(0, 6), -1);
        due(19, "breaks(21, 0)", x.breaks(21, 0), -1);
        x.times(2, 9999, 999, 999, 9999);
        due(19, "breaks(9999, 4)", x.breaks(9999, 4), 19998);
    }

    private static void toldOfParts() {
        StampedWires x = new StampedWires();
        for (int kind = 0; kind < 8; kind++) x.part(kind, kind + 1, 0, kind + 100);
        x.control(7, 2, 3);
        x.level(4, -7, 8);
        x.times(4, 1, 2, 3, 9);
        int[] unknown = {-1, -1, 8, 9, -1, -1, -1, -1};
        for (int kind = 0; kind < 8; kind++) {
            boolean waves = kind == 3 || kind == 4 || kind == 6;
            boolean set = kind == 4;
            int[] all = {kind, kind + 1, 0, kind + 100, set ? -7 : 0, set ? 8 : 0, set ? 1 : 0, set ? 2 : waves ? 1 : 0, set ? 3 : 0, set ? 9 : 0,
                kind == 7 ? 2 : 0, kind == 7 ? 3 : 0, unknown[kind]};
            for (int w = 0; w < 13; w++) due(20, "told(" + kind + ", " + w + ")", x.told(kind, w), all[w]);
        }
        for (int f : FAR) {
            due(20, "told(" + f + ", 0)", x.told(f, 0), Integer.MIN_VALUE);
            due(20, "told(0, " + f + ")", x.told(0, f), Integer.MIN_VALUE);
        }
        due(20, "told(8, 0)", x.told(8, 0), Integer.MIN_VALUE);
        due(20, "told(0, 13)", x.told(0, 13), Integer.MIN_VALUE);
    }

    private static void counts() {
        StampedWires x = one(8, 4);
        due(21, "count(20)", x.count(20), -1);
        for (int f : FAR) due(21, "count(" + f + ")", x.count(f), -1);
        x.rest();
        x.run(20);
        due(21, "count(3)", x.count(3), 34);
        due(21, "count(6)", x.count(6), 32);
        x.part(0, 1, 2, 1);
        int[] not = {0, 0, 0, 1};
        for (int w = 3; w < 7; w++) due(21, "count(" + w + ") behind a part", x.count(w), not[w - 3]);
        due(21, "count(2)", x.count(2), 6);
        due(21, "count(12)", x.count(12), 9);
        due(21, "count(15)", x.count(15), 8);
        x.value(0, 3);
        due(21, "count(5) while it is not READY", x.count(5), 0);
    }

    private static void entries() {
        StampedWires x = new StampedWires();
        x.part(0, 1, 2, 3);
        x.part(3, 1, 0, 1);
        x.part(5, 2, 0, 64);
        x.part(7, 2, 0, 512);
        x.control(3, 1, 1);
        x.part(2, 2, 3, 16);
        due(22, "entry(0, 0, 0) ahead of REST", entry(x, 0, 0, 0), THREW);
        due(9, "rest()", x.rest(), 0);
        double g = 1.0 / 3;
        // The UNKNOWNS are nodes 1, 2, 3, the VOLTAGE, the COIL.
        dueEntry(x, 0, 0, LEAK + g);
        dueEntry(x, 0, 1, 0 - g);
        // The GAIN by 1, 1 adds 2 and takes it; the JUNCTION adds a 0.
        dueEntry(x, 1, 0, 0 - g + 2 - 2);
        dueEntry(x, 1, 1, LEAK + g + 0);
        dueEntry(x, 2, 2, LEAK);
        dueEntry(x, 0, 3, 1);
        dueEntry(x, 3, 0, 1);
        dueEntry(x, 1, 4, 1);
        dueEntry(x, 2, 4, -1);
        dueEntry(x, 4, 1, 1);
        dueEntry(x, 4, 2, -1);
        dueEntry(x, 4, 4, 0);
        int[][] none = {{0, 2}, {2, 0}, {2, 1}, {1, 2}, {3, 3}, {3, 1}, {3, 4}, {4, 3}, {4, 0}, {5, 0}, {0, 5}, {-1, 0}, {0, -1}, {32, 0}, {0, 32}};
        for (int[] e : none) due(22, "entry(" + e[0] + ", " + e[1] + ", 0)", entry(x, e[0], e[1], 0), THREW);
        due(22, "entry(0, 0, 2)", entry(x, 0, 0, 2), THREW);
        due(22, "entry(0, 0, -1)", entry(x, 0, 0, -1), THREW);
        x.step();
        dueEntry(x, 4, 4, 0 - 1.0 * 1.0);
        x.value(0, 5);
        x.steps(9, 0);
        x.shift(0, 1);
        ahead(x, 1, 9, 0, 0);
        dueEntry(x, 0, 1, 0 - g);
        x.part(0, 1, 2, 3);
        due(22, "entry(0, 0, 0) behind a part", entry(x, 0, 0, 0), THREW);
        x.rest();
        dueEntry(x, 0, 1, 0 - 1.0 / 5 - g);
        x.control(3, 1, 1);
        due(22, "entry(0, 0, 0) behind a control", entry(x, 0, 0, 0), THREW);
    }

    private static void pivotsAndFills() {
        // A star: node 1 in the middle of 2, 3, 4; the leaves go first, in order, then nothing is filled.
        StampedWires x = new StampedWires();
        for (int v = 2; v < 5; v++) x.part(0, 1, v, 1);
        x.part(0, 1, 0, 1);
        due(23, "pivot(0, 0) ahead of REST", x.pivot(0, 0), -1);
        due(24, "fills() ahead of REST", x.fills(), -1);
        x.rest();
        int[] star = {1, 2, 0, 3};
        // With 1 of the leaves left, that one and the middle both have one besides: the first of the two.
        for (int k = 0; k < 4; k++) {
            due(23, "pivot(" + k + ", 0)", x.pivot(k, 0), star[k]);
            due(23, "pivot(" + k + ", 1)", x.pivot(k, 1), star[k]);
        }
        due(24, "fills()", x.fills(), 0);
        for (int k : new int[] {4, -1, Integer.MIN_VALUE, Integer.MAX_VALUE}) due(23, "pivot(" + k + ", 0)", x.pivot(k, 0), -1);
        for (int w : new int[] {2, -1, Integer.MIN_VALUE, Integer.MAX_VALUE}) due(23, "pivot(0, " + w + ")", x.pivot(0, w), -1);

        // A ring of four nodes: the first joins its two neighbours, which were not joined: two ENTRIES.
        StampedWires y = new StampedWires();
        y.part(0, 1, 2, 1);
        y.part(0, 2, 3, 1);
        y.part(0, 3, 4, 1);
        y.part(0, 4, 1, 1);
        y.part(0, 1, 0, 1);
        y.rest();
        due(24, "fills() of a ring", y.fills(), 2);
        due(23, "pivot(0, 0)", y.pivot(0, 0), 0);
        due(23, "pivot(0, 1)", y.pivot(0, 1), 0);

        // An ENTRY of less than 1 / 64 of the greatest of its equation is no pivot: the RESISTOR of 100 to node 2 is none against 1.
        StampedWires z = new StampedWires();
        z.part(7, 1, 0, 256);
        z.control(0, 2, 0);
        z.part(0, 1, 0, 65);
        z.part(0, 2, 0, 1);
        z.rest();
        due(23, "pivot(0, 0)", z.pivot(0, 0), 1);
        due(23, "pivot(0, 1)", z.pivot(0, 1), 1);
        due(23, "pivot(1, 0)", z.pivot(1, 0), 0);
        z.value(1, 63);
        z.part(4, 0, 1, 1);
        z.rest();
        due(23, "pivot(0, 0): 1 / 63 will do", z.pivot(0, 0), 0);
    }

    private static void orderIsFoundAnew() {
        // (0, 0) is the first pivot while its RESISTOR is small; the GAIN keeps 1 beside it.
        StampedWires x = new StampedWires();
        x.part(7, 1, 0, 256);
        x.control(0, 2, 0);
        x.part(0, 1, 0, 63);
        x.part(0, 2, 0, 1);
        x.rest();
        due(23, "pivot(0, 0)", x.pivot(0, 0), 0);
        due(21, "count(13)", x.count(13), 1);
        x.value(1, 4000);
        x.rest();
        due(21, "count(13): above 1 / 4096 it is kept", x.count(13), 1);
        due(23, "pivot(0, 0)", x.pivot(0, 0), 0);
        x.value(1, 9999);
        due(29, "shift(0, 2)", x.shift(0, 2), 0);
        due(23, "pivot(0, 0): what is foretold changes no ORDER", x.pivot(0, 0), 0);
        x.rest();
        due(21, "count(13): found anew", x.count(13), 2);
        due(21, "count(12): SOLVED once for all that", x.count(12), 3);
        due(23, "pivot(0, 0)", x.pivot(0, 0), 1);
        x.value(1, 1);
        x.rest();
        due(21, "count(13): kept again", x.count(13), 2);
        due(23, "pivot(0, 0)", x.pivot(0, 0), 1);
    }

    private static void loops() {
        StampedWires x = new StampedWires();
        due(25, "loop()", x.loop(), 0);
        x.part(3, 1, 0, 1);
        x.part(2, 1, 2, 1);
        due(25, "loop()", x.loop(), 0);
        x.part(0, 2, 0, 1);
        due(25, "loop() through a RESISTOR is none", x.loop(), 0);
        x.part(3, 0, 2, 1);
        due(25, "loop()", x.loop(), 1 + 2 + 8);
        x.part(2, 2, 3, 1);
        due(25, "loop() with a tail", x.loop(), 1 + 2 + 8);
        x.part(2, 5, 6, 1);
        x.part(2, 6, 5, 1);
        due(25, "loop() of two between the same NODES", x.loop(), 1 + 2 + 8 + 32 + 64);
        x.part(2, 3, 5, 1);
        due(25, "loop(): a bridge between two rings", x.loop(), 1 + 2 + 8 + 32 + 64);
    }

    private static void floatingNodes() {
        int[] leads = {1, 0, 1, 1, 0, 1, 1, 0};
        for (int kind = 0; kind < 8; kind++) {
            StampedWires x = new StampedWires();
            x.part(kind, 3, 0, 1);
            due(26, "floating() of the kind " + kind, x.floating(), leads[kind] == 1 ? 0 : 8);
        }
        StampedWires x = new StampedWires();
        x.part(0, 1, 2, 1);
        x.part(0, 2, 3, 1);
        x.part(1, 3, 0, 1);
        x.part(7, 4, 0, 1);
        x.control(3, 5, 6);
        x.part(0, 5, 0, 1);
        due(26, "floating()", x.floating(), 2 + 4 + 8 + 16 + 64);
        x.part(6, 0, 2, 1);
        due(26, "floating()", x.floating(), 16 + 64);
    }

    private static void islands() {
        StampedWires x = new StampedWires();
        due(27, "islands()", x.islands(), 1);
        x.part(1, 1, 2, 1);
        due(27, "islands()", x.islands(), 2);
        x.part(7, 3, 4, 1);
        due(27, "islands()", x.islands(), 3);
        x.control(1, 5, 8);
        due(27, "islands(): c and d join nothing", x.islands(), 5);
        x.part(4, 2, 3, 1);
        due(27, "islands()", x.islands(), 4);
        x.part(1, 0, 4, 1);
        due(27, "islands()", x.islands(), 3);
    }

    private static void aheadOfTime() {
        for (int m = -1; m < 3; m++) {
            StampedWires x = charged();
            due(28, "ahead(1, 5, -1, 0) ahead of REST", ahead(x, 1, 5, -1, 0), THREW);
            x.rest();
            x.run(7);
            int[] was = new int[20];
            for (int w = 0; w < 20; w++) was[w] = x.count(w);
            long upper = ahead(x, 1, 9, m, 0);
            long lower = ahead(x, 1, 9, m, 1);
            for (int w = 0; w < 20; w++) due(28, "count(" + w + ") behind it", x.count(w), was[w]);
            if (m >= 0) x.method(m);
            due(28, "run(9)", x.run(9) >= 9, true);
            due(28, "ahead(1, 9, " + m + ", 0)", upper, volt(x, 1, 0));
            due(28, "ahead(1, 9, " + m + ", 1)", lower, volt(x, 1, 1));
            due(28, "ahead(2, 9, -1, 0)", ahead(x, 2, 9, -1, 0), 0);
        }
        StampedWires x = charged();
        x.rest();
        int[][] bad = {{-1, 1, 0, 0}, {9, 1, 0, 0}, {1, 0, 0, 0}, {1, 61, 0, 0}, {1, -1, 0, 0}, {1, 1, -2, 0}, {1, 1, 3, 0}, {1, 1, 0, -1}, {1, 1, 0, 2}};
        for (int[] a : bad) due(28, "wrong " + java.util.Arrays.toString(a), ahead(x, a[0], a[1], a[2], a[3]), THREW);
        due(28, "ahead(0, 60, -1, 0)", ahead(x, 0, 60, -1, 0), 0);
    }

    private static void shifts() {
        StampedWires x = one(8, 4);
        due(29, "shift(1, 1) ahead of REST", x.shift(1, 1), 1);
        due(29, "count(4)", x.count(4), 0);
        due(29, "count(12)", x.count(12), 0);
        due(29, "fills()", x.fills(), -1);
        due(29, "shift(0, 1): n does nothing", x.shift(0, 1), 0);
        due(29, "shift(1, 0)", x.shift(1, 0), 0);
        due(29, "shift(1, 8)", x.shift(1, 8), 0);
        x.level(0, -8, -8);
        due(29, "shift(1, 1)", x.shift(1, 1), -1);
        due(29, "told(1, 3)", x.told(1, 3), 4);
        x.rest();
        x.run(9);
        due(29, "shift(1, 1)", x.shift(1, 1), -1);
        due(29, "count(3)", x.count(3) > 0, true);
        for (int f : FAR) {
            due(29, "shift(" + f + ", 1)", x.shift(f, 1), -2);
            due(29, "shift(1, " + f + ")", x.shift(1, f), -2);
        }
        due(29, "shift(2, 1)", x.shift(2, 1), -2);
        due(29, "shift(1, 9)", x.shift(1, 9), -2);
        x.value(1, 9998);
        due(29, "shift(1, 1)", x.shift(1, 1), -1);
        x.value(1, 9999);
        due(29, "shift(1, 1)", x.shift(1, 1), -2);

        StampedWires y = gains();
        y.value(1, 256);
        y.value(2, 255);
        y.level(0, 1, 1);
        due(29, "shift(2, 3): WILD by one more", y.shift(2, 3), -2);
        y.value(2, 256);
        due(29, "shift(0, 1): WILD as it is", y.shift(0, 1), -2);
        due(29, "count(18)", y.count(18), 0);
        due(29, "count(9)", y.count(9), 0);
    }

    private static void stepsAhead() {
        StampedWires x = one(8, 4);
        due(30, "steps(5, 0) ahead of REST", x.steps(5, 0), -1);
        x.rest();
        // 1, 1, 1, 1, 2, 4, 8, 16, 32
        due(30, "steps(1, 0)", x.steps(1, 0), 1);
        due(30, "steps(6, 0)", x.steps(6, 0), 5);
        due(30, "steps(7, 0)", x.steps(7, 0), 6);
        due(30, "steps(60, 0)", x.steps(60, 0), 9);
        due(30, "steps(60, 1)", x.steps(60, 1), 32);
        due(30, "steps(60, 2)", x.steps(60, 2), 0);
        due(30, "count(3)", x.count(3), 0);
        due(30, "count(14)", x.count(14), 0);
        for (int t : new int[] {0, 61, -1, Integer.MIN_VALUE, Integer.MAX_VALUE}) due(30, "steps(" + t + ", 0)", x.steps(t, 0), -1);
        for (int w : new int[] {3, -1, Integer.MIN_VALUE, Integer.MAX_VALUE}) due(30, "steps(5, " + w + ")", x.steps(5, w), -1);

        StampedWires y = charged();
        y.rest();
        for (int k = 0; k < 9; k++) {
            int taken = y.count(15), refused = y.count(16);
            int many = y.steps(11, 0), times = y.steps(11, 2);
            y.run(11);
            due(30, "steps(11, 0)", many, y.count(15) - taken);
            due(30, "steps(11, 2)", times, y.count(16) - refused);
        }
    }

    private static void zerosAndSmallest() {
        // 0 / -1 is a zero below 0, and its BITS say so.
        StampedWires x = new StampedWires();
        x.part(3, 0, 1, 1);
        x.rest();
        dueVolt(13, x, 1, -0.0);
        due(14, "milli(1)", x.milli(1), 0);

        // A CAPACITOR that empties through 1 by steps of 64 comes to the smallest numbers that there are, and to 0.
        StampedWires y = new StampedWires();
        y.part(1, 1, 0, 1);
        y.part(0, 1, 0, 1);
        y.part(4, 0, 1, 1);
        y.level(2, 0, 9);
        y.times(2, 0, 1, 0, 0);
        y.method(0);
        y.rest();
        double v = 0;
        boolean small = false;
        for (int k = 0; k < 200; k++) {
            int h = y.step();
            double a = 1.0 / h;
            double b = 0 - a * v;
            v = (0 - 1 / 16.0 * b + (y.count(3) == 1 ? 9 : 0)) / (LEAK + 1 / 16.0 * a + 1.0);
            dueVolt(13, y, 1, v);
            small |= v > 0 && v < Double.MIN_NORMAL;
        }
        due(13, "a number of the smallest sort came", small, true);
        due(13, "volt(1, 1) in the end", volt(y, 1, 1), 0);
    }

    private PromisesTest() { }
}
