/** The limits of REST, STEP, run and of what is foretold: promises 9 to 11 and 28 to 30. */
public final class TimeEdgesTest extends Due {
    public static void main(String[] args) {
        notReady();
        restOfTheEmpty();
        restIsAtTheTimeZero();
        readyTillAPartIsTold();
        stepsNeverGoOverABreak();
        stepsGrowTo64();
        everyTickABreak();
        errorJustAtItsBound();
        errorAFourthOfItsBound();
        boundsByTolerance();
        firstPartThatIsForced();
        forcedInTheLastStepThatWasTaken();
        oddStepsAreHalvedAndCut();
        stepRefusedDownToOneFails();
        lastTryThatFailed();
        stepFailsAtOnce();
        freshIsAlwaysEuler();
        gearByUnlikeSteps();
        coilsAndCapacitorsByEachMethod();
        runOnBothSides();
        runTillOneFails();
        aheadOnBothSides();
        aheadFromWhatThereIs();
        aheadTillOneFails();
        stepsOnBothSides();
        stepsTillOneFails();
        shiftOnBothSides();
        shiftByTheLastValue();
        shiftIsAtRest();
        foretoldChangesNothing();
        fiveHundredAndTwelveCalls();
        end("rest, steps and what is foretold keep to their limits");
    }

    // "NONE: it is not READY"; "NoSuchElementException: .. it is not READY"
    private static void notReady() {
        StampedWires x = charged();
        for (int k = 0; k < 2; k++) {
            due(10, "step()", x.step(), -1);
            due(11, "run(1)", x.run(1), -1);
            due(11, "run(60)", x.run(60), -1);
            due(15, "flow(0, 0)", flow(x, 0, 0), THREW);
            due(16, "charge(0, 0)", charge(x, 0, 0), THREW);
            due(17, "balance(1, 0)", balance(x, 1, 0), THREW);
            due(28, "ahead(1, 1, -1, 0)", ahead(x, 1, 1, -1, 0), THREW);
            due(30, "steps(1, 0)", x.steps(1, 0), -1);
            due(13, "volt(1, 0)", volt(x, 1, 0), 0);
            due(14, "milli(1)", x.milli(1), 0);
            dueCounts(21, "while it is not READY", x, 3, 0, 0, 0, 1);
            due(21, "count(14)", x.count(14), k * 6);
            due(29, "shift(0, 1): REST needs no READY", x.shift(0, 1), 0);
            x.rest();
            x.run(6);
            x.part(0, 1, 0, 1);
        }
    }

    private static void restOfTheEmpty() {
        StampedWires x = new StampedWires();
        due(9, "rest()", x.rest(), 0);
        dueCounts(9, "behind it", x, 0, 0, 0, 0, 0, 1, 1, 1, 1, 16, 0, -1, -1, 1, 1, 0, 0, 0, 0, 0, 0);
        due(30, "steps(60, 0)", x.steps(60, 0), 7);
        due(30, "steps(60, 1)", x.steps(60, 1), 32);
        due(30, "steps(60, 2)", x.steps(60, 2), 0);
        for (int v = 0; v < 9; v++) due(28, "ahead(" + v + ", 60, -1, 0)", ahead(x, v, 60, -1, 0), 0);
        due(29, "shift(0, 0)", x.shift(0, 0), -2);
        dueSteps("of the empty", x, 1, 1, 2, 4, 8, 16, 32, 64, 64);
        due(11, "run(1)", x.run(1), 64);
        due(15, "flow(0, 0)", flow(x, 0, 0), THREW);
        due(17, "balance(0, 0)", balance(x, 0, 0), THREW);
        due(17, "balance(1, 0)", balance(x, 1, 0), THREW);
    }

    // "REST: at the time 0"; "Else the time is 0, the last x .., the slope of each is 0; it is FRESH, WANTED is 1."
    private static void restIsAtTheTimeZero() {
        StampedWires x = charged();
        x.rest();
        x.run(40);
        due(21, "count(3)", x.count(3) >= 40, true);
        due(9, "rest() again", x.rest(), 0);
        dueCounts(9, "behind it", x, 3, 0, 1, 1, 1);
        dueVolt(9, x, 1, 0.0);
        dueFlow(x, 0, 0.0);
        dueCharge(x, 0, 0.0);
        // As the first time: EULER from 0.
        x.step();
        dueVolt(10, x, 1, 8 / (LEAK + 1.0 + 1.0));

        // A DELAY of 0 with its RISE at the time 0 is LOW, not HIGH.
        StampedWires y = one(3, 1);
        y.level(0, 3, 9);
        y.rest();
        dueVolt(9, y, 1, 3 / (LEAK + 1.0));
        y.step();
        dueVolt(10, y, 1, 9 / (LEAK + 1.0));
    }

    // "It is READY then, till a PART is told or c, d of a GAIN are."
    private static void readyTillAPartIsTold() {
        StampedWires x = one(8, 4);
        x.part(7, 1, 0, 5);
        due(21, "count(4) ahead of REST", x.count(4), 0);
        x.rest();
        x.value(1, 5);
        x.level(0, 9, 9);
        x.times(0, 9, 9, 9, 99);
        x.method(2);
        x.tolerance(3);
        x.part(9, 1, 0, 1);
        x.control(1, 1, 0);
        due(21, "count(4) behind all that", x.count(4), 1);
        due(10, "step()", x.step(), 1);
        x.control(2, 1, 0);
        due(21, "count(4) behind a control", x.count(4), 0);
        due(10, "step()", x.step(), -1);
        x.rest();
        due(21, "count(4)", x.count(4), 1);
        x.part(0, 1, 0, 1);
        due(21, "count(4) behind a part", x.count(4), 0);
    }

    // "no more than up to the first BREAK (of any WAVE) behind the time"; "it is FRESH if the time is a BREAK"
    private static void stepsNeverGoOverABreak() {
        for (int delay = 0; delay < 140; delay++) {
            for (int rise = 1; rise < 4; rise++) {
                StampedWires x = one(8, 4);
                x.times(0, delay, rise, 2 * rise, 0);
                x.part(6, 1, 0, 1);
                x.times(2, delay + 3, 1, 0, 0);
                int[] breaks = {delay, delay + rise, delay + 3 * rise, delay + 4 * rise, delay + 3, delay + 4, delay + 5};
                x.rest();
                int time = 0, wanted = 1;
                boolean fresh = true;
                for (int k = 0; k < 24; k++) {
                    int h = fresh ? 1 : wanted;
                    for (int b : breaks) if (b > time && b - time < h) h = b - time;
                    time += h;
                    boolean was = fresh;
                    fresh = false;
                    for (int b : breaks) fresh |= b == time;
                    wanted = fresh ? 1 : was ? h : Math.min(64, 2 * h);
                    String when = "with the DELAY " + delay + " at " + time;
                    due(10, "step() " + when, x.step(), h);
                    dueCounts(21, when, x, 3, time, 1, fresh ? 1 : 0, wanted);
                }
            }
        }
    }

    // "2 * h, 64 at most"
    private static void stepsGrowTo64() {
        StampedWires x = one(8, 4);
        x.times(0, 9999, 1, 0, 0);
        x.rest();
        dueSteps("that grow", x, 1, 1, 2, 4, 8, 16, 32);
        due(21, "count(6)", x.count(6), 64);
        dueSteps("that have grown", x, 64, 64);
        due(21, "count(6)", x.count(6), 64);
    }

    private static void everyTickABreak() {
        StampedWires x = one(8, 4);
        x.times(0, 0, 1, 0, 2);
        x.rest();
        due(30, "steps(60, 0)", x.steps(60, 0), 60);
        due(30, "steps(60, 1)", x.steps(60, 1), 1);
        due(11, "run(60)", x.run(60), 60);
        dueCounts(21, "behind 60 STEPS", x, 12, 61, 1, 60, 60, 0, 0, 0, 0);
        dueCounts(21, "behind 60 STEPS", x, 3, 60, 1, 1, 1);
    }

    // "If any error is more than its bound, .. if h is 1 it is FORCED"
    private static void errorJustAtItsBound() {
        for (int sign = -1; sign <= 1; sign += 2) {
            for (int tolerance = 511; tolerance <= 513; tolerance++) {
                // x2, x1, x are 0, 1, 1: the error is 1, the bound TOLERANCE / 1024 * (1 + 1).
                StampedWires x = held();
                x.times(0, 9999, 1, 0, 0);
                x.tolerance(tolerance);
                x.rest();
                x.level(0, sign, sign);
                dueSteps("FRESH, then not", x, 1, 1);
                boolean forced = tolerance < 512;
                String when = "by " + tolerance;
                dueCounts(21, when, x, 14, 2, 2, 0, forced ? 1 : 0);
                due(21, "count(11) " + when, x.count(11), forced ? 1 : -1);
                due(21, "count(6) " + when, x.count(6), 1);
            }
        }
    }

    // "2 * h .. if it was not FRESH and each error * 4 is at most its bound; else h"
    private static void errorAFourthOfItsBound() {
        for (int sign = -1; sign <= 1; sign += 2) {
            for (int tolerance = 511; tolerance <= 513; tolerance++) {
                // x2, x1, x are 0, 4, 7: the error is 1, the bound TOLERANCE / 1024 * (1 + 7).
                StampedWires x = held();
                x.times(0, 0, 100, 0, 0);
                x.tolerance(tolerance);
                x.rest();
                x.level(0, sign, sign * 301);
                dueSteps("FRESH, then not", x, 1, 1);
                dueVolt(10, x, 1, sign * 7.0);
                due(21, "count(6) by " + tolerance, x.count(6), tolerance < 512 ? 1 : 2);
                due(21, "count(17) by " + tolerance, x.count(17), 0);
            }
        }
    }

    /** A CAPACITOR that a GAIN feeds by what it holds, solved here by the words of the document. */
    private static void boundsByTolerance() {
        for (int tolerance : new int[] {1, 2, 3, 5, 9, 16, 33, 64, 100, 256, 511, 512, 700, 1023, 1024}) {
            StampedWires x = new StampedWires();
            x.part(1, 1, 0, 9999);
            x.part(7, 0, 1, 9999);
            x.control(1, 1, 0);
            x.part(4, 0, 1, 1);
            x.level(2, 1, 1);
            x.times(2, 9999, 1, 0, 0);
            x.method(0);
            x.tolerance(tolerance);
            x.rest();
            double c = 9999 / 16.0, m = 9999 / 256.0, x1 = 1 / (LEAK - m), x2 = 0;
            int h1 = 1, wanted = 1, refused = 0, forced = 0, tries = 0;
            x.level(2, -9, -9);
            // By the greatest TOLERANCE the 19th would be WILD by 1 already.
            for (int k = 0; k < 18; k++) {
                int h = wanted;
                double v, error, bound;
                while (true) {
                    tries++;
                    double a = 1.0 / h;
                    v = (0 - c * (0 - a * x1) + -9.0) / (LEAK + c * a - m);
                    error = Math.abs(v - (x1 + (x1 - x2) / h1 * h));
                    bound = tolerance / 1024.0 * (1 + Math.abs(v));
                    // By 16 the leak alone is left to divide by, so it comes to be WILD, too.
                    boolean wild = Math.abs(v) >= 1152921504606846976.0;
                    if (k == 0 || !wild && error <= bound || h == 1) break;
                    refused++;
                    h = h / 2;
                }
                if (k > 0 && error > bound) forced++;
                wanted = k > 0 && error * 4 <= bound ? Math.min(64, 2 * h) : h;
                x2 = x1;
                x1 = v;
                h1 = h;
                String when = "by " + tolerance + ", " + k;
                due(10, "step() " + when, x.step(), h);
                dueVolt(10, x, 1, v);
                dueCounts(10, when, x, 14, tries, k + 1, refused, forced);
                due(10, "count(6) " + when, x.count(6), wanted);
            }
        }
    }

    // "(the STEP is counted once; of these PARTS the first is told)"
    private static void firstPartThatIsForced() {
        StampedWires x = new StampedWires();
        x.part(1, 2, 0, 16);
        x.part(3, 1, 0, 1);
        x.part(1, 1, 0, 16);
        x.part(1, 0, 1, 8);
        x.times(1, 9999, 1, 0, 0);
        x.rest();
        x.level(1, 9, 9);
        dueSteps("FRESH, then not", x, 1, 1);
        due(21, "count(11): 0 keeps to its bound, 2 and 3 do not", x.count(11), 2);
        due(21, "count(17)", x.count(17), 1);
        // COILS and CAPACITORS by their numbers, whichever is first.
        for (int first = 1; first <= 2; first++) {
            StampedWires y = new StampedWires();
            y.part(3, 1, 0, 1);
            y.part(4, 0, 2, 1);
            y.times(0, 9999, 1, 0, 0);
            y.times(1, 9999, 1, 0, 0);
            y.part(first, first, 0, 16);
            y.part(3 - first, 3 - first, 0, 16);
            y.rest();
            y.level(0, 9, 9);
            y.level(1, 9, 9);
            dueSteps("FRESH, then not", y, 1, 1);
            due(21, "count(11) of both", y.count(11), 2);
            due(21, "count(17) of both", y.count(17), 1);
        }
    }

    // "the PART that was FORCED first in the last STEP that was taken (NONE: none)"
    private static void forcedInTheLastStepThatWasTaken() {
        StampedWires x = held();
        x.times(0, 9999, 1, 0, 0);
        x.part(5, 1, 0, 64);
        x.rest();
        x.level(0, 9, 9);
        dueSteps("FRESH, then not", x, 1, 1);
        due(21, "count(11)", x.count(11), 1);
        x.level(0, 999, 999);
        due(10, "step() that fails", x.step(), 0);
        due(21, "count(11) behind one that fails", x.count(11), 1);
        due(9, "rest() that fails", x.rest(), 2);
        due(21, "count(11) behind it", x.count(11), 1);
        x.level(0, 9, 9);
        due(9, "rest()", x.rest(), 0);
        due(21, "count(11) behind a REST", x.count(11), 1);
        due(10, "step()", x.step(), 1);
        due(21, "count(11) behind one that is FRESH", x.count(11), -1);
    }

    /** A VOLTAGE that rises straight from the time 0 on by so much a tick, across a JUNCTION. */
    private static StampedWires ramp(int slope, int rise) {
        StampedWires x = junction(0);
        x.level(0, 0, slope * rise);
        x.times(0, 0, rise, 0, 0);
        return x;
    }

    // "it is REFUSED: h is h / 2, cut, for the next TRY"; more than 14 volts at once are STUCK.
    private static void oddStepsAreHalvedAndCut() {
        StampedWires x = ramp(5, 7);
        x.rest();
        dueSteps("by 5", x, 1, 1, 2);
        due(21, "count(16)", x.count(16), 0);
        due(21, "count(6)", x.count(6), 4);
        dueSteps("3 is REFUSED, 1 is taken", x, 1);
        dueCounts(21, "behind 3 and 1", x, 14, 5, 4, 1);
        due(21, "count(9): it was taken", x.count(9), 0);
        due(21, "count(6)", x.count(6), 2);
        dueSteps("up to the BREAK", x, 2);
        due(21, "count(3)", x.count(3), 7);

        StampedWires y = ramp(3, 13);
        y.rest();
        due(30, "steps(13, 0)", y.steps(13, 0), 6);
        due(30, "steps(13, 1)", y.steps(13, 1), 4);
        due(30, "steps(13, 2)", y.steps(13, 2), 1);
        dueSteps("by 3: 5 is REFUSED, 2 is taken", y, 1, 1, 2, 4, 2, 3);
        due(21, "count(16)", y.count(16), 1);
        due(21, "count(3)", y.count(3), 13);
    }

    /** A SWITCH that closes at the time 11, halfway up its RISE, puts more across a JUNCTION than ROUNDS can bear. */
    private static StampedWires shut() {
        StampedWires x = new StampedWires();
        x.part(3, 1, 0, 1);
        x.level(0, 900, 900);
        x.times(0, 9999, 1, 0, 0);
        x.part(6, 1, 2, 9999);
        x.level(1, -10, 10);
        x.times(1, 0, 20, 0, 0);
        x.part(5, 2, 0, 64);
        return x;
    }

    // "If the ROUNDS fail and h is more than 1 it is REFUSED ..; if h is 1 the STEP fails."
    private static void stepRefusedDownToOneFails() {
        StampedWires x = shut();
        due(9, "rest()", x.rest(), 0);
        dueSteps("while it is open", x, 1, 1, 2, 4);
        dueCounts(21, "at 8", x, 3, 8, 1, 0, 8);
        dueSteps("8 and 4 are REFUSED", x, 2);
        dueCounts(21, "at 10", x, 14, 7, 5, 2);
        dueCounts(21, "at 10", x, 3, 10, 1, 0, 4);
        dueCounts(21, "at 10", x, 9, 0, -1);
        long volts = volt(x, 2, 1);
        for (int again = 1; again < 3; again++) {
            due(10, "step(): 4 and 2 are REFUSED, 1 fails", x.step(), 0);
            dueCounts(21, "behind it", x, 14, 7 + 3 * again, 5, 2 + 2 * again);
            dueCounts(21, "behind it: all as it was", x, 3, 10, 1, 0, 4);
            dueCounts(21, "behind it: STUCK at the current", x, 9, 2, 2);
            due(13, "volt(2, 1)", volt(x, 2, 1), volts);
        }
    }

    // "(TRIES, too: the last that failed in it; 0 if it was taken)"
    private static void lastTryThatFailed() {
        StampedWires x = gains();
        x.value(1, 256);
        x.value(2, 256);
        // NODE 3 comes to 2 to the power of 60 at 12, the SWITCH closes at 11.
        x.level(0, 0, 1);
        x.times(0, 0, 12, 9, 0);
        x.part(3, 4, 0, 1);
        x.level(3, 900, 900);
        x.times(3, 9999, 1, 0, 0);
        x.part(6, 4, 5, 9999);
        x.level(4, -10, 10);
        x.times(4, 0, 20, 0, 0);
        x.part(5, 5, 0, 64);
        due(9, "rest()", x.rest(), 0);
        dueSteps("up to 8", x, 1, 1, 2, 4);
        dueSteps("4 is WILD, 2 is taken", x, 2);
        dueCounts(21, "behind it", x, 9, 0, -1);
        due(21, "count(16)", x.count(16), 1);
        due(10, "step(): 2 is WILD, 1 is STUCK", x.step(), 0);
        due(21, "count(9): STUCK", x.count(9), 2);
        due(21, "count(16)", x.count(16), 2);
        due(21, "count(3)", x.count(3), 10);
        x.level(4, -10, -10);
        due(10, "step() to 11", x.step(), 1);
        due(10, "step() to 12: 1 is WILD", x.step(), 0);
        dueCounts(21, "behind it", x, 9, 3, 2);
    }

    private static void stepFailsAtOnce() {
        StampedWires x = junction(0);
        x.rest();
        x.level(0, 15, 15);
        due(10, "step()", x.step(), 0);
        dueCounts(21, "behind it", x, 3, 0, 1, 1, 1);
        dueCounts(21, "behind it", x, 14, 1, 0, 0, 0, 0);
        dueVolt(10, x, 1, 0.0);
        x.level(0, 14, 14);
        due(10, "step() from the guess 0 still", x.step(), 1);
        dueCounts(21, "behind it", x, 9, 0, -1);
    }

    // "0 EULER (FRESH: always)"
    private static void freshIsAlwaysEuler() {
        for (int method = 0; method < 3; method++) {
            StampedWires x = charged();
            x.method(method);
            x.rest();
            double euler = LEAK + 1.0 + 1.0;
            double v1 = 8 / euler;
            double v2 = (0 - (0 - v1) + 8) / euler;
            x.step();
            dueVolt(10, x, 1, v1);
            x.step();
            dueVolt(10, x, 1, v2);
            // Told of a PART: FRESH again.
            x.value(1, 1);
            x.step();
            dueVolt(10, x, 1, (0 - (0 - v2) + 8) / euler);
        }
    }

    // "r is h / h1 .. x2 the x ahead of that, h1 the h between these": a STEP that is shorter than the one ahead of it.
    private static void gearByUnlikeSteps() {
        StampedWires x = new StampedWires();
        x.part(1, 1, 0, 16);
        x.part(0, 1, 0, 1);
        x.part(4, 0, 1, 1);
        x.level(2, 8, 8);
        x.times(2, 6, 1, 0, 0);
        x.method(2);
        x.tolerance(1024);
        x.rest();
        x.level(2, 5, 5);
        double w0 = 8 / (LEAK + 0.0 + 1.0);
        double w1 = (0 - (0 - w0) + 5) / (LEAK + 1.0 + 1.0);
        dueSteps("EULER", x, 1);
        dueVolt(10, x, 1, w1);
        double[] at = {w0, w1, 0, 0, 0};
        int[] h = {0, 1, 1, 2, 2};
        for (int k = 2; k < 5; k++) {
            double r = (double) h[k] / h[k - 1];
            double a = (1 + 2 * r) / (1 + r) / h[k];
            double b = (0 - (1 + r) * at[k - 1] + r * r / (1 + r) * at[k - 2]) / h[k];
            at[k] = (0 - b + 5) / (LEAK + a + 1.0);
            due(10, "step() by GEAR", x.step(), h[k]);
            dueVolt(10, x, 1, at[k]);
            dueFlow(x, 0, a * at[k] + b);
        }
        dueCounts(21, "at the BREAK 6", x, 3, 6, 1, 1, 1);
    }

    /** A and B of one, told in the words of the document; A first, then B. */
    private static double[] factors(int method, int h, int h1, double x1, double x2, double d1) {
        double r = (double) h / h1;
        if (method == 0) return new double[] {1.0 / h, 0 - 1.0 / h * x1};
        if (method == 1) return new double[] {2.0 / h, 0 - 2.0 / h * x1 - d1};
        return new double[] {(1 + 2 * r) / (1 + r) / h, (0 - (1 + r) * x1 + r * r / (1 + r) * x2) / h};
    }

    // A is 1 / h, 2 / h, ..; "COIL i: .. (i, i) - L * A, RIGHT i + L * B"; "CAPACITOR: C * A as G, then C * B as J"
    private static void coilsAndCapacitorsByEachMethod() {
        for (int method = 0; method < 3; method++) {
            for (int n : new int[] {1, 40, 9999}) {
                coilSteps(method, n);
                capacitorSteps(method, n);
            }
        }
    }

    /** A COIL alone takes what a CURRENT gives, but for the leak: h grows from STEP to STEP. */
    private static void coilSteps(int method, int n) {
        StampedWires x = new StampedWires();
        x.part(4, 0, 1, 1);
        x.times(0, 9999, 1, 0, 0);
        x.level(0, 3, 3);
        x.part(2, 1, 0, n);
        x.method(method);
        x.tolerance(1024);
        x.rest();
        x.level(0, 4, 4);
        double l = n / 16.0, x1 = 3, x2 = 0, d1 = 0;
        dueFlow(x, 1, x1);
        int h1 = 1;
        int[] all = {1, 1, 2, 4, 8, 16, 32, 64, 64};
        for (int k = 0; k < all.length; k++) {
            int h = all[k];
            double[] f = factors(k == 0 ? 0 : method, h, h1, x1, x2, d1);
            // The pivots are (0, 1), then (1, 0), from the REST on.
            double v = (l * f[1] - -(l * f[0]) * 4) / (1 - -(l * f[0]) * LEAK);
            double i = 4 - LEAK * v;
            due(10, "step() of a COIL by " + method, x.step(), h);
            dueVolt(10, x, 1, v);
            dueFlow(x, 1, i);
            dueCharge(x, 1, l * i);
            dueEntry(x, 1, 1, 0 - l * f[0]);
            x2 = x1;
            x1 = i;
            d1 = f[0] * i + f[1];
            h1 = h;
        }
    }

    private static void capacitorSteps(int method, int n) {
        StampedWires x = new StampedWires();
        x.part(4, 0, 1, 1);
        x.times(0, 9999, 1, 0, 0);
        x.level(0, 3, 3);
        x.part(1, 1, 0, n);
        x.part(0, 1, 0, 1);
        x.method(method);
        x.tolerance(1024);
        x.rest();
        x.level(0, 4, 4);
        double c = n / 16.0, x1 = 3 / (LEAK + c * 0 + 1.0), x2 = 0, d1 = 0;
        dueVolt(9, x, 1, x1);
        int h1 = 1;
        for (int k = 0; k < 9; k++) {
            int h = x.step();
            double[] f = factors(k == 0 ? 0 : method, h, h1, x1, x2, d1);
            double v = (0 - c * f[1] + 4) / (LEAK + c * f[0] + 1.0);
            dueVolt(10, x, 1, v);
            x2 = x1;
            x1 = v;
            d1 = f[0] * v + f[1];
            h1 = h;
            dueFlow(x, 1, c * d1);
            dueCharge(x, 1, c * v);
            dueEntry(x, 0, 0, LEAK + c * f[0] + 1.0);
        }
        due(10, "the last was a long one", h1 > 8, true);
    }

    // "STEPS till so much time (1 to 60) is gone, or more"
    private static void runOnBothSides() {
        for (int ticks : new int[] {Integer.MIN_VALUE, -60, -1, 0, 1, 2, 3, 4, 7, 8, 59, 60, 61, 62, Integer.MAX_VALUE}) {
            StampedWires x = new StampedWires();
            x.rest();
            // 1, 2, 4, 8, 16, 32, 64 are gone behind 1, 2, .. 7 STEPS.
            int gone = -1;
            if (in(ticks, 1, 60)) {
                gone = 1;
                while (gone < ticks) gone = 2 * gone;
            }
            due(30, "steps(" + ticks + ", 1)", x.steps(ticks, 1), gone < 2 ? gone : gone / 2);
            due(11, "run(" + ticks + ")", x.run(ticks), gone);
            due(11, "count(3)", x.count(3), Math.max(gone, 0));
        }
    }

    // "or one fails: how much is gone"
    private static void runTillOneFails() {
        for (int ticks = 1; ticks <= 8; ticks++) {
            StampedWires x = failsBehindFive();
            due(11, "run(" + ticks + ")", x.run(ticks), Math.min(ticks, 5));
            due(11, "count(9)", x.count(9), ticks <= 5 ? 0 : 2);
            due(11, "count(3)", x.count(3), Math.min(ticks, 5));
            due(11, "count(15)", x.count(15), Math.min(ticks, 5));
        }
        StampedWires x = failsBehindFive();
        x.run(5);
        due(11, "run(1): the first fails", x.run(1), 0);
        due(11, "run(60): the first fails", x.run(60), 0);
    }

    /** Each tick is a BREAK; the STEP from 5 to 6 fails. */
    private static StampedWires failsBehindFive() {
        StampedWires x = junction(5);
        x.level(0, 5, 500);
        x.times(0, 5, 1, 10, 0);
        x.part(6, 2, 0, 1);
        x.times(2, 0, 1, 0, 2);
        x.rest();
        return x;
    }

    // "so much time (1 to 60) .., by a METHOD (NONE: that which it has ..)"
    private static void aheadOnBothSides() {
        int[] nodes = {Integer.MIN_VALUE, -1, 0, 1, 8, 9, Integer.MAX_VALUE};
        int[] ticks = {Integer.MIN_VALUE, -1, 0, 1, 60, 61, Integer.MAX_VALUE};
        int[] methods = {Integer.MIN_VALUE, -2, -1, 0, 1, 2, 3, Integer.MAX_VALUE};
        int[] whats = {Integer.MIN_VALUE, -1, 0, 1, 2, Integer.MAX_VALUE};
        for (int v : nodes) for (int t : ticks) for (int m : methods) {
            StampedWires x = charged();
            x.rest();
            for (int w : whats) {
                boolean good = in(v, 0, 8) && in(t, 1, 60) && in(m, -1, 2) && in(w, 0, 1);
                String call = "ahead(" + v + ", " + t + ", " + m + ", " + w + ")";
                due(28, call + " answers", ahead(x, v, t, m, w) != THREW, good);
                if (good && v != 1) due(28, call, ahead(x, v, t, m, w), 0);
            }
        }
        // What it tells is what comes, by each METHOD.
        for (int t : new int[] {1, 2, 3, 30, 60}) for (int m = -1; m < 3; m++) {
            StampedWires x = charged();
            x.rest();
            long upper = ahead(x, 1, t, m, 0), lower = ahead(x, 1, t, m, 1);
            due(28, "count(7) stays", x.count(7), 1);
            if (m >= 0) x.method(m);
            x.run(t);
            due(28, "ahead(1, " + t + ", " + m + ", 0)", upper, volt(x, 1, 0));
            due(28, "ahead(1, " + t + ", " + m + ", 1)", lower, volt(x, 1, 1));
        }
    }

    // "NONE: that which it has": the METHOD, the TOLERANCE, the UNKNOWNS, the guesses and the ORDER as they are.
    private static void aheadFromWhatThereIs() {
        for (int m = 0; m < 3; m++) for (int tolerance : new int[] {1, 16, 1024}) {
            StampedWires x = charged();
            x.rest();
            x.run(5);
            x.method(m);
            x.tolerance(tolerance);
            dueAhead("by " + m + ", " + tolerance, x, 1, 30);
        }
        // A slow rise: a ROUND does for each STEP, if it begins with what there is.
        StampedWires y = new StampedWires();
        y.part(3, 1, 0, 1);
        y.level(0, 5, 6);
        y.times(0, 0, 999, 0, 0);
        y.part(0, 1, 2, 3);
        y.part(5, 2, 0, 64);
        y.method(0);
        y.rest();
        y.step();
        y.level(0, 5, 5);
        int rounds = y.count(12);
        for (int k = 0; k < 4; k++) dueAhead("of a JUNCTION " + k, y, 2, 1);
        due(28, "few ROUNDS were enough", y.count(12) - rounds < 9, true);

        // By the ORDER that was found for 3, NODE 1 is not just where one that is found for 569 has it.
        StampedWires kept = byOrder(3), anew = byOrder(569);
        kept.rest();
        kept.value(4, 569);
        anew.rest();
        due(29, "shift(0, 1): the VALUE of a CURRENT does nothing, by one ORDER", kept.shift(0, 1), 0);
        long told = ahead(kept, 1, 1, -1, 1);
        kept.rest();
        due(21, "count(13)", kept.count(13), 1);
        due(23, "pivot(0, 1)", kept.pivot(0, 1), 0);
        due(23, "pivot(0, 1)", anew.pivot(0, 1), 1);
        due(28, "they differ", volt(kept, 1, 1) != volt(anew, 1, 1), true);
        due(28, "ahead(1, 1, -1, 1) by the ORDER that there is", told, volt(kept, 1, 1));
    }

    private static StampedWires byOrder(int n) {
        StampedWires x = new StampedWires();
        x.part(4, 0, 1, 1);
        x.level(0, 7, 7);
        x.part(7, 1, 0, 256);
        x.control(1, 2, 0);
        x.part(0, 2, 0, 1);
        x.part(0, 2, 0, 1);
        x.part(0, 2, 1, n);
        return x;
    }

    private static void dueAhead(String when, StampedWires x, int node, int ticks) {
        long upper = ahead(x, node, ticks, -1, 0), lower = ahead(x, node, ticks, -1, 1);
        int many = x.steps(ticks, 0), refused = x.steps(ticks, 2), taken = x.count(15), before = x.count(16);
        x.run(ticks);
        due(28, "ahead(" + node + ", " + ticks + ", -1, 0) " + when, upper, volt(x, node, 0));
        due(28, "ahead(" + node + ", " + ticks + ", -1, 1) " + when, lower, volt(x, node, 1));
        due(30, "steps(" + ticks + ", 0) " + when, many, x.count(15) - taken);
        due(30, "steps(" + ticks + ", 2) " + when, refused, x.count(16) - before);
    }

    private static void aheadTillOneFails() {
        for (int ticks = 1; ticks <= 8; ticks++) {
            StampedWires x = failsBehindFive();
            due(28, "ahead(1, " + ticks + ", -1, 0)", ahead(x, 1, ticks, -1, 0), ticks <= 5 ? upper(5.0) : THREW);
            dueCounts(28, "behind it", x, 9, 0, -1);
            due(28, "count(14) behind it", x.count(14), 0);
        }
    }

    private static void stepsOnBothSides() {
        int[] ticks = {Integer.MIN_VALUE, -1, 0, 1, 60, 61, Integer.MAX_VALUE};
        int[] whats = {Integer.MIN_VALUE, -1, 0, 1, 2, 3, Integer.MAX_VALUE};
        StampedWires x = new StampedWires();
        x.rest();
        for (int t : ticks) for (int w : whats) {
            int due = !in(t, 1, 60) || !in(w, 0, 2) ? -1 : w == 2 ? 0 : t == 1 ? 1 : w == 0 ? 7 : 32;
            due(30, "steps(" + t + ", " + w + ")", x.steps(t, w), due);
        }
        due(30, "steps(60, 1)", x.steps(60, 1), 32);
        due(30, "steps(1, 1): not the longest of another time", x.steps(1, 1), 1);
        due(30, "steps(5, 1)", x.steps(5, 1), 4);
    }

    private static void stepsTillOneFails() {
        for (int ticks = 1; ticks <= 8; ticks++) {
            StampedWires x = failsBehindFive();
            for (int w = 0; w < 3; w++) {
                int due = ticks > 5 ? -1 : w == 0 ? ticks : w == 1 ? 1 : 0;
                due(30, "steps(" + ticks + ", " + w + ")", x.steps(ticks, w), due);
            }
            dueCounts(30, "behind it", x, 9, 0, -1);
        }
    }

    private static void shiftOnBothSides() {
        for (int many : new int[] {0, 2, 16}) {
            StampedWires x = many == 0 ? new StampedWires() : one(8, 4);
            for (int i = 2; i < many; i++) x.part(4, 1, 0, 5);
            for (int p : new int[] {Integer.MIN_VALUE, -1, 0, 1, many - 1, many, 15, 16, Integer.MAX_VALUE}) {
                for (int v : new int[] {Integer.MIN_VALUE, -1, 0, 1, 2, 8, 9, Integer.MAX_VALUE}) {
                    int due = !in(p, 0, many - 1) || !in(v, 0, 8) ? -2 : p == 1 && v == 1 ? 1 : 0;
                    due(29, "shift(" + p + ", " + v + ") of " + many, x.shift(p, v), due);
                }
            }
        }
    }

    // "-2: others, the VALUE is 9999"
    private static void shiftByTheLastValue() {
        for (int n : new int[] {1, 2, 9997, 9998, 9999}) {
            for (int current = -1; current <= 1; current++) {
                StampedWires x = one(current, n);
                due(29, "shift(1, 1) from " + n, x.shift(1, 1), n == 9999 ? -2 : current);
                due(29, "told(1, 3)", x.told(1, 3), n);
                x.value(0, n);
                due(29, "shift(0, 1) of a CURRENT at " + n, x.shift(0, 1), n == 9999 ? -2 : 0);
            }
        }
    }

    // "Whether at REST": the time does not matter, nor what was told of STEPS.
    private static void shiftIsAtRest() {
        StampedWires x = charged();
        x.level(2, 0, 8);
        due(29, "shift(1, 1): nothing flows at 0", x.shift(1, 1), 0);
        x.rest();
        x.run(20);
        due(14, "milli(1)", x.milli(1) > 0, true);
        due(29, "shift(1, 1) still", x.shift(1, 1), 0);
        due(29, "shift(0, 1): a CAPACITOR does nothing at REST", x.shift(0, 1), 0);
        due(21, "count(3)", x.count(3) >= 20, true);
        x.level(2, 3, 8);
        due(29, "shift(1, 1)", x.shift(1, 1), 1);
        x.level(2, -3, 8);
        due(29, "shift(1, 1)", x.shift(1, 1), -1);
        // Both must be found: the one as it is fails, or the one with a VALUE more.
        StampedWires y = gains();
        y.level(0, 1, 1);
        int[][] cases = {{256, 254, 0}, {256, 255, -2}, {256, 256, -2}, {255, 256, -2}};
        for (int[] c : cases) {
            y.value(1, c[0]);
            y.value(2, c[1]);
            due(29, "shift(2, 1) with " + c[0] + ", " + c[1], y.shift(2, 1), c[0] == 255 ? 0 : c[2]);
            due(29, "shift(1, 1) with " + c[0] + ", " + c[1], y.shift(1, 1), c[1] < 255 ? 0 : c[0] + 1 < 256 ? 0 : c[1] == 255 ? 0 : -2);
        }
        dueCounts(29, "behind all that", y, 9, 0, -1, -1, 0, 0, 0, 0, 0, 0, 0, 0);
    }

    // "What is foretold .. changes nothing (the ORDER and what is counted neither ..)."
    private static void foretoldChangesNothing() {
        StampedWires x = shut();
        x.rest();
        x.run(6);
        int[] was = new int[20];
        for (int w = 0; w < 20; w++) was[w] = x.count(w);
        long a = entry(x, 1, 1, 1), b = volt(x, 2, 1), c = flow(x, 2, 1);
        due(28, "ahead(2, 60, 0, 0), one fails", ahead(x, 2, 60, 0, 0), THREW);
        due(30, "steps(60, 0), one fails", x.steps(60, 0), -1);
        due(30, "steps(2, 0)", x.steps(2, 0), 1);
        due(29, "shift(2, 2)", x.shift(2, 2), -1);
        for (int w = 0; w < 20; w++) due(28, "count(" + w + ")", x.count(w), was[w]);
        due(22, "entry(1, 1, 1)", entry(x, 1, 1, 1), a);
        due(13, "volt(2, 1)", volt(x, 2, 1), b);
        due(15, "flow(2, 1)", flow(x, 2, 1), c);
    }

    // "An object is used for at most 512 calls": the last of them answers as the first.
    private static void fiveHundredAndTwelveCalls() {
        StampedWires x = new StampedWires();
        x.part(4, 0, 1, 1);
        x.level(0, 7, 9);
        x.times(0, 0, 1, 0, 100);
        x.part(0, 1, 0, 2);
        x.rest();
        // BREAKS at 0, 1, 2 of each 100; between: 1, 1, 2, 4, 8, 16, 32, and 34 that are left.
        int[] h = {1, 1, 1, 1, 2, 4, 8, 16, 32, 34};
        for (int k = 0; k < 505; k++) due(10, "step " + k, x.step(), h[k % 10]);
        due(21, "the 511th call", x.count(3), 5006);
        due(14, "the 512th call", x.milli(1), 13999);

        StampedWires y = new StampedWires();
        y.rest();
        due(11, "run(60)", y.run(60), 64);
        for (int k = 0; k < 509; k++) due(11, "run(60)", y.run(60), 64);
        due(21, "the 512th call", y.count(3), 510 * 64);
    }

    private TimeEdgesTest() { }
}
