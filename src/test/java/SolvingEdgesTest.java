/** The limits in EQUATIONS, SOLVED, ORDER and ROUNDS, and in REST as far as ROUNDS make it fail. */
public final class SolvingEdgesTest extends Due {
    private static final double TWO_TO_60 = 1152921504606846976.0;

    public static void main(String[] args) {
        whatIsAddedIsThereWereItZero();
        theGroundIsLeftOut();
        leastAndGreatestValues();
        switchesAboveZero();
        junctionsAboveZero();
        entriesSinceTheOrderWent();
        entriesOfTheEmptyAndTheFull();
        pivotsOfTheEmptyAndTheFull();
        orderGoesWithPartsAndControls();
        orderStaysWithAllElse();
        firstEquationThenFirstUnknown();
        leastProduct();
        entriesThatAnOrderMakes();
        oneSixtyFourthOfTheGreatest();
        leastSizeOfAPivot();
        keptAtOnePartIn4096();
        keptAtTheLeastSize();
        singularLeavesNoOrder();
        wildAtTwoToSixty();
        wildAtTheFirst();
        limitedByMoreThanOne();
        doneWhenNothingDiffersByMore();
        sixteenRoundsAtMost();
        stuckAtTheFirstThatDiffersMost();
        sparedInFourQuarters();
        sparedFromWild();
        singularIsNotSpared();
        end("equations, order and rounds keep to their limits");
    }

    // "what is added to an ENTRY, were it 0, makes it be there"
    private static void whatIsAddedIsThereWereItZero() {
        StampedWires x = new StampedWires();
        x.part(1, 1, 2, 16);
        x.part(2, 3, 0, 16);
        x.part(5, 3, 4, 64);
        x.part(7, 1, 0, 64);
        x.control(3, 4, 4);
        due(22, "entry(0, 1, 0) ahead of all", entry(x, 0, 1, 0), THREW);
        due(9, "rest()", x.rest(), 0);
        dueEntry(x, 0, 1, 0.0);
        dueEntry(x, 1, 0, 0.0);
        dueEntry(x, 2, 3, 0.0);
        dueEntry(x, 3, 2, 0.0);
        dueEntry(x, 0, 3, 0.0);
        dueEntry(x, 4, 4, 0.0);
        dueEntry(x, 1, 1, LEAK);
        int[][] none = {{0, 2}, {0, 4}, {1, 2}, {1, 3}, {1, 4}, {2, 0}, {2, 1}, {3, 0}, {3, 1}, {3, 4}, {4, 0}, {4, 1}, {4, 3}};
        for (int[] e : none) due(22, "entry(" + e[0] + ", " + e[1] + ", 0)", entry(x, e[0], e[1], 0), THREW);
    }

    // "An equation or an UNKNOWN of the GROUND .. is left out."
    private static void theGroundIsLeftOut() {
        for (int kind : new int[] {0, 1, 4, 5, 6, 7}) {
            for (int turned = 0; turned < 2; turned++) {
                StampedWires x = new StampedWires();
                x.part(kind, turned == 0 ? 5 : 0, turned == 0 ? 0 : 5, 64);
                due(9, "rest() of the kind " + kind, x.rest(), 0);
                due(21, "count(1)", x.count(1), 1);
                due(22, "entry(0, 0, 0) is there", entry(x, 0, 0, 0) != THREW, true);
                due(22, "entry(0, 1, 0)", entry(x, 0, 1, 0), THREW);
                due(22, "entry(1, 0, 0)", entry(x, 1, 0, 0), THREW);
            }
        }
        for (int turned = 0; turned < 2; turned++) {
            StampedWires x = new StampedWires();
            x.part(3, turned == 0 ? 5 : 0, turned == 0 ? 0 : 5, 64);
            x.rest();
            dueEntry(x, 0, 1, turned == 0 ? 1.0 : -1.0);
            dueEntry(x, 1, 0, turned == 0 ? 1.0 : -1.0);
            due(22, "entry(1, 1, 0): a VOLTAGE adds nothing there", entry(x, 1, 1, 0), THREW);
        }
        // A GAIN by the GROUND adds nothing, by one NODE less the GROUND it adds to that one alone.
        StampedWires y = new StampedWires();
        y.part(7, 1, 2, 128);
        y.rest();
        due(22, "entry(0, 1, 0)", entry(y, 0, 1, 0), THREW);
        dueEntry(y, 0, 0, LEAK);
        y.control(0, 0, 2);
        y.rest();
        dueEntry(y, 0, 1, -0.5);
        dueEntry(y, 1, 1, LEAK + 0.5);
        due(22, "entry(1, 0, 0)", entry(y, 1, 0, 0), THREW);
    }

    // G, C, L, K, M by the least VALUE and by the greatest.
    private static void leastAndGreatestValues() {
        for (int n : new int[] {1, 9999}) {
            StampedWires x = new StampedWires();
            int[] kinds = {0, 1, 6, 7, 5};
            for (int k = 0; k < 5; k++) x.part(kinds[k], k + 1, 0, n);
            x.control(3, 6, 0);
            x.level(2, 1, 1);
            x.part(2, 7, 0, n);
            x.part(4, 0, 5, 1);
            x.part(3, 8, 5, 1);
            due(9, "rest()", x.rest(), 0);
            due(10, "step()", x.step(), 1);
            dueEntry(x, 0, 0, LEAK + 1.0 / n);
            dueEntry(x, 1, 1, LEAK + n / 16.0);
            dueEntry(x, 2, 2, LEAK + n / 64.0);
            dueEntry(x, 3, 5, n / 256.0);
            dueEntry(x, 8, 8, 0 - n / 16.0);
        }
        // The guess of a JUNCTION across 3 volts is 3: 2 * K * u.
        for (int n : new int[] {1, 9999}) {
            StampedWires x = junction(3);
            x.value(1, n);
            due(9, "rest()", x.rest(), 0);
            double k = n / 64.0;
            double g = 2 * k * 3;
            dueEntry(x, 0, 0, LEAK + g);
            dueFlow(x, 1, k * 3 * 3);
            dueFlow(x, 0, 0 - (k * 3 * 3 - g * 3) - (LEAK + g) * 3);
        }
    }

    // "SWITCH: G is n / 64 while its WAVE is above 0, else 1 / 65536."
    private static void switchesAboveZero() {
        int[] levels = {-999, -1, 0, 1, 999};
        for (int level : levels) {
            StampedWires x = new StampedWires();
            x.part(6, 1, 0, 64);
            x.level(0, level, level);
            x.rest();
            dueEntry(x, 0, 0, level > 0 ? LEAK + 1.0 : LEAK + 1 / 65536.0);
        }
        // From 0 up and down again: above 0 at 1 / 999 already, and no more where it is 0 again.
        StampedWires x = new StampedWires();
        x.part(6, 1, 0, 64);
        x.level(0, 0, 1);
        x.times(0, 3, 999, 0, 0);
        x.rest();
        dueSteps("up to where it begins", x, 1, 1, 1);
        dueEntry(x, 0, 0, LEAK + 1 / 65536.0);
        dueSteps("one behind", x, 1);
        dueEntry(x, 0, 0, LEAK + 1.0);
        x.times(0, 0, 2, 0, 0);
        dueSteps("where it ends", x, 1);
        due(21, "count(3)", x.count(3), 5);
        dueEntry(x, 0, 0, LEAK + 1 / 65536.0);
        x.times(0, 3, 2, 0, 0);
        dueSteps("one ahead of where it ends", x, 1);
        dueEntry(x, 0, 0, LEAK + 1.0);
    }

    // "g is 2 * K * u, if u is above 0, else 0"; "K * v * v, if the voltage v ACROSS is above 0, else 0"
    private static void junctionsAboveZero() {
        StampedWires x = junction(0);
        due(9, "rest() at 0", x.rest(), 0);
        dueEntry(x, 0, 0, LEAK);
        dueFlow(x, 1, 0.0);
        due(21, "count(12): one ROUND does", x.count(12), 1);
        StampedWires y = junction(-1);
        due(9, "rest() at -1", y.rest(), 0);
        dueEntry(y, 0, 0, LEAK);
        dueFlow(y, 1, 0.0);
        StampedWires z = junction(1);
        due(9, "rest() at 1", z.rest(), 0);
        dueEntry(z, 0, 0, LEAK + 2.0);
        dueFlow(z, 1, 1.0);
    }

    // "nothing was stamped since the ORDER went last"
    private static void entriesSinceTheOrderWent() {
        StampedWires x = one(8, 4);
        x.part(7, 1, 0, 1);
        due(22, "entry(0, 0, 0) ahead of all", entry(x, 0, 0, 0), THREW);
        x.shift(1, 1);
        due(22, "entry(0, 0, 0) behind what is foretold", entry(x, 0, 0, 0), THREW);
        x.rest();
        due(22, "entry(0, 0, 0) behind a REST", entry(x, 0, 0, 0) != THREW, true);
        x.part(0, 1, 1, 1);
        due(22, "entry(0, 0, 0) behind a part that is refused", entry(x, 0, 0, 0) != THREW, true);
        x.control(2, 9, 0);
        due(22, "entry(0, 0, 0) behind a control that is refused", entry(x, 0, 0, 0) != THREW, true);
        x.control(2, 0, 0);
        due(22, "entry(0, 0, 0) behind a control as it was", entry(x, 0, 0, 0), THREW);
        x.rest();
        x.part(0, 1, 0, 1);
        due(22, "entry(0, 0, 0) behind a part", entry(x, 0, 0, 0), THREW);
        // What is told else stays unstamped till the next STEP.
        x.rest();
        x.value(1, 2);
        dueEntry(x, 0, 0, LEAK + 0.25 + 1.0);
        x.step();
        dueEntry(x, 0, 0, LEAK + 0.5 + 1.0);
        x.clear();
        due(22, "entry(0, 0, 0) behind clear()", entry(x, 0, 0, 0), THREW);
    }

    private static void entriesOfTheEmptyAndTheFull() {
        StampedWires x = new StampedWires();
        x.rest();
        for (int e : new int[] {-1, 0, 1, 23, 24}) due(22, "entry(" + e + ", 0, 0) of none", entry(x, e, 0, 0), THREW);

        StampedWires y = coils();
        y.rest();
        dueEntry(y, 0, 0, LEAK);
        dueEntry(y, 23, 23, 0.0);
        dueEntry(y, 23, 7, 1.0);
        dueEntry(y, 7, 23, 1.0);
        int[] beyond = {Integer.MIN_VALUE, -24, -1, 24, 25, 31, 32, 55, 64, Integer.MAX_VALUE};
        for (int e : beyond) {
            for (int u : new int[] {0, 23}) {
                due(22, "entry(" + e + ", " + u + ", 0)", entry(y, e, u, 0), THREW);
                due(22, "entry(" + u + ", " + e + ", 0)", entry(y, u, e, 0), THREW);
            }
        }
        for (int w : new int[] {Integer.MIN_VALUE, -1, 2, Integer.MAX_VALUE}) due(22, "entry(23, 23, " + w + ")", entry(y, 23, 23, w), THREW);
    }

    /** 16 COILS, two from each of 8 NODES to the GROUND: 24 UNKNOWNS. */
    private static StampedWires coils() {
        StampedWires x = new StampedWires();
        for (int i = 0; i < 16; i++) x.part(2, 1 + i % 8, 0, 16);
        return x;
    }

    private static void pivotsOfTheEmptyAndTheFull() {
        StampedWires x = new StampedWires();
        due(24, "fills() ahead of REST", x.fills(), -1);
        due(9, "rest() of none", x.rest(), 0);
        due(24, "fills(): an ORDER of none", x.fills(), 0);
        due(23, "pivot(0, 0)", x.pivot(0, 0), -1);
        dueCounts(21, "of none", x, 12, 1, 1);
        x.rest();
        dueCounts(21, "of none: it is kept", x, 12, 2, 1);

        // Without two in a row the COILS are found: 8 NODES, each to the GROUND, and 8 RESISTORS beside.
        StampedWires y = new StampedWires();
        for (int i = 0; i < 8; i++) y.part(2, 1 + i, 0, 16);
        for (int i = 0; i < 8; i++) y.part(0, 1 + i, 0, 16);
        due(9, "rest() of the full", y.rest(), 0);
        due(21, "count(1)", y.count(1), 16);
        // Each NODE and its COIL are two equations with all four ENTRIES; (v, v) is 1 / 16 of 1, so it will do and comes first.
        for (int k = 0; k < 16; k++) {
            int due = k % 2 == 0 ? k / 2 : 8 + k / 2;
            due(23, "pivot(" + k + ", 0)", y.pivot(k, 0), due);
            due(23, "pivot(" + k + ", 1)", y.pivot(k, 1), due);
        }
        for (int k : new int[] {Integer.MIN_VALUE, -1, 16, 17, 24, Integer.MAX_VALUE}) {
            due(23, "pivot(" + k + ", 0)", y.pivot(k, 0), -1);
            due(23, "pivot(" + k + ", 1)", y.pivot(k, 1), -1);
        }
        for (int w : new int[] {Integer.MIN_VALUE, -1, 2, Integer.MAX_VALUE}) due(23, "pivot(0, " + w + ")", y.pivot(0, w), -1);
        due(24, "fills()", y.fills(), 0);
    }

    // "The ORDER goes when a PART is told or c, d of a GAIN are."
    private static void orderGoesWithPartsAndControls() {
        StampedWires x = one(8, 4);
        x.part(7, 1, 0, 256);
        x.rest();
        due(23, "pivot(0, 0)", x.pivot(0, 0), 0);
        x.control(2, 0, 0);
        due(23, "pivot(0, 0) behind a control", x.pivot(0, 0), -1);
        due(24, "fills() behind a control", x.fills(), -1);
        due(21, "count(4)", x.count(4), 0);
        x.rest();
        due(21, "count(13)", x.count(13), 2);
        x.part(0, 1, 0, 5);
        due(23, "pivot(0, 0) behind a part", x.pivot(0, 0), -1);
        due(24, "fills() behind a part", x.fills(), -1);
        x.rest();
        due(21, "count(13)", x.count(13), 3);
        StampedWires y = new StampedWires();
        y.rest();
        y.part(0, 1, 0, 1);
        due(24, "fills(): the ORDER of none goes, too", y.fills(), -1);
    }

    private static void orderStaysWithAllElse() {
        StampedWires x = one(8, 4);
        x.part(7, 1, 0, 256);
        x.rest();
        x.value(1, 5);
        x.level(0, 1, 2);
        x.times(0, 1, 1, 1, 9);
        x.method(0);
        x.tolerance(9);
        x.part(0, 0, 0, 1);
        x.control(2, 0, 9);
        x.control(1, 0, 0);
        x.step();
        x.rest();
        ahead(x, 1, 60, 2, 0);
        x.shift(1, 1);
        x.steps(60, 0);
        due(23, "pivot(0, 0)", x.pivot(0, 0), 0);
        due(24, "fills()", x.fills(), 0);
        due(21, "count(13)", x.count(13), 1);
    }

    // "of these of the first equation, then the first UNKNOWN"
    private static void firstEquationThenFirstUnknown() {
        // Two NODES by one RESISTOR: all four ENTRIES have the product 1, and each is the greatest or near.
        StampedWires x = new StampedWires();
        x.part(0, 3, 7, 1);
        x.rest();
        due(23, "pivot(0, 0)", x.pivot(0, 0), 0);
        due(23, "pivot(0, 1)", x.pivot(0, 1), 0);
        // A VOLTAGE between two leaks: its ENTRIES are 1 and -1; (0, 0) is too small, so it is (0, 2) or (2, 0) or ..: the first equation.
        StampedWires y = new StampedWires();
        y.part(3, 1, 2, 1);
        y.rest();
        due(23, "pivot(0, 0)", y.pivot(0, 0), 0);
        due(23, "pivot(0, 1)", y.pivot(0, 1), 2);
    }

    // "the least product of how many ENTRIES left its equation and its UNKNOWN have besides it"
    private static void leastProduct() {
        // NODE 1 with 2, 3, 4 hung on it is held by a VOLTAGE; the SWITCH makes (0, 4) too small to be a pivot.
        // (4, 0) has no ENTRY besides it in its equation, though four for its UNKNOWN: 0. (1, 1) has 1 * 1.
        StampedWires x = new StampedWires();
        for (int v = 2; v < 5; v++) x.part(0, 1, v, 1);
        x.part(6, 1, 0, 9999);
        x.level(3, 1, 1);
        x.part(3, 1, 0, 1);
        due(9, "rest()", x.rest(), 0);
        due(23, "pivot(0, 0)", x.pivot(0, 0), 4);
        due(23, "pivot(0, 1)", x.pivot(0, 1), 0);
        // Apart from 1 and 2, NODE 3 is held by a VOLTAGE: (2, 3) has one besides in its equation, none for its UNKNOWN: 0.
        StampedWires y = new StampedWires();
        y.part(0, 1, 2, 1);
        y.part(3, 3, 0, 1);
        due(9, "rest()", y.rest(), 0);
        due(23, "pivot(0, 0)", y.pivot(0, 0), 2);
        due(23, "pivot(0, 1)", y.pivot(0, 1), 3);
        due(24, "fills()", y.fills(), 0);
    }

    // "(e, j) is (e, j) - f * (p, j) (0 ahead, if it was not there, now it is)"; "FILLS: how many ENTRIES an ORDER made"
    private static void entriesThatAnOrderMakes() {
        // A ring of 1 ohm each from NODE 1 over n others, 4 ampere into NODE 1, out through 1 ohm from NODE n.
        for (int n = 3; n <= 8; n++) {
            StampedWires x = new StampedWires();
            for (int v = 1; v <= n; v++) x.part(0, v, v % n + 1, 1);
            x.part(4, 0, 1, 1);
            x.level(n, 4, 4);
            x.part(0, n, 0, 1);
            due(9, "rest()", x.rest(), 0);
            // Each NODE that goes first joins its two neighbours; the last three are joined to each other already.
            due(24, "fills() of a ring of " + n, x.fills(), 2 * (n - 3));
            for (int v = 1; v <= n; v++) {
                // From 1 to n straight and over all the others: 1 and n - 1 ohm side by side.
                double whole = 4.0 * (n - 1) / n;
                double due = 4 + (v == n ? 0 : whole * (n - v) / (n - 1));
                due(24, "milli(" + v + ") of a ring of " + n, Math.abs(x.milli(v) - 1000 * due) < 2, true);
                due(17, "balance(" + v + ") is all but 0", Math.abs(Double.longBitsToDouble((long) x.balance(v, 0) << 32)) < 1e-12, true);
            }
        }
    }

    /** NODE 1 goes by 2 and by 3, of which each goes by all: nine ENTRIES, each of the product 4. */
    private static StampedWires nine(int by2, int by3) {
        StampedWires x = new StampedWires();
        x.part(7, 1, 0, by2);
        x.control(0, 2, 0);
        x.part(7, 1, 0, by3);
        x.control(1, 3, 0);
        x.part(0, 2, 3, 1);
        x.part(7, 2, 3, 256);
        x.control(3, 1, 0);
        return x;
    }

    // "at least 1 / 64 of the greatest so of its equation"
    private static void oneSixtyFourthOfTheGreatest() {
        for (int by2 : new int[] {1, 2, 100}) {
            for (int by3 : new int[] {64 * by2 - 1, 64 * by2, 64 * by2 + 1}) {
                StampedWires x = nine(by2, by3);
                due(9, "rest()", x.rest(), 0);
                due(23, "pivot(0, 0)", x.pivot(0, 0), 0);
                due(23, "pivot(0, 1) of " + by2 + " by " + by3, x.pivot(0, 1), by3 <= 64 * by2 ? 1 : 2);
            }
        }
    }

    /** Two NODES whose last pivot is the product of their leaks, divided by the GAIN: n / 256. */
    private static StampedWires leaks(int n) {
        StampedWires x = new StampedWires();
        x.part(7, 1, 0, n);
        x.control(0, 2, 0);
        x.part(7, 2, 0, 1);
        x.control(1, 1, 1);
        return x;
    }

    // "at least 1 / 1099511627776 by size"; "SINGULAR, at the first UNKNOWN of which the equation is left"
    private static void leastSizeOfAPivot() {
        for (int n : new int[] {128, 255, 256, 257, 9999}) {
            StampedWires x = leaks(n);
            due(9, "rest() of " + n, x.rest(), n <= 256 ? 0 : 1);
            dueCounts(21, "of " + n, x, 9, n <= 256 ? 0 : 1, n <= 256 ? -1 : 1);
            due(21, "count(13) of " + n, x.count(13), n <= 256 ? 1 : 0);
            due(23, "pivot(0, 1) of " + n, x.pivot(0, 1), n <= 256 ? 1 : -1);
            due(23, "pivot(1, 0) of " + n, x.pivot(1, 0), n <= 256 ? 1 : -1);
            due(23, "pivot(1, 1) of " + n, x.pivot(1, 1), n <= 256 ? 0 : -1);
            due(24, "fills() of " + n, x.fills(), n <= 256 ? 0 : -1);
        }
    }

    // "at least 1 / 4096 of the greatest by size of its equation among UNKNOWNS left, itself too"
    private static void keptAtOnePartIn4096() {
        // (0, 0) is the leak and the second GAIN less the third; (0, 1) is the first GAIN.
        StampedWires x = new StampedWires();
        x.part(7, 1, 0, 1);
        x.control(0, 2, 0);
        x.part(7, 1, 0, 2);
        x.control(1, 1, 0);
        x.part(7, 0, 1, 1);
        x.control(2, 1, 0);
        x.part(0, 2, 0, 1);
        x.rest();
        due(23, "pivot(0, 1)", x.pivot(0, 1), 0);
        x.value(1, 256);
        x.value(2, 256);
        x.rest();
        dueEntry(x, 0, 0, LEAK);
        dueEntry(x, 0, 1, 4096 * LEAK);
        due(21, "count(13): just 1 / 4096 is kept", x.count(13), 1);
        due(23, "pivot(0, 1)", x.pivot(0, 1), 0);
        x.value(0, 2);
        x.rest();
        due(21, "count(13): 1 / 8192 is not", x.count(13), 2);
        due(23, "pivot(0, 0)", x.pivot(0, 0), 1);
        due(23, "pivot(1, 0)", x.pivot(1, 0), 0);

        // 4096 times what a RESISTOR of 105 and the leak let through is 9987.4 / 256.
        for (int n = 9986; n <= 9989; n++) {
            StampedWires y = new StampedWires();
            y.part(7, 1, 0, 256);
            y.control(0, 2, 0);
            y.part(0, 1, 0, 1);
            y.part(0, 2, 0, 1);
            y.rest();
            due(23, "pivot(0, 0)", y.pivot(0, 0), 0);
            y.value(0, n);
            y.value(1, 105);
            y.step();
            boolean kept = LEAK + 1.0 / 105 >= n / 256.0 / 4096;
            due(21, "kept with " + n, kept, n < 9988);
            due(21, "count(13) with " + n, y.count(13), n < 9988 ? 1 : 2);
            due(23, "pivot(0, 0) with " + n, y.pivot(0, 0), n < 9988 ? 0 : 1);
        }
    }

    private static void keptAtTheLeastSize() {
        StampedWires x = leaks(128);
        x.rest();
        x.value(0, 256);
        due(9, "rest() with the last pivot at 1 / 1099511627776", x.rest(), 0);
        due(21, "count(13)", x.count(13), 1);
        due(10, "step()", x.step(), 1);
        due(21, "count(13)", x.count(13), 1);
    }

    // "SINGULAR .. there is no ORDER then"; "What fails leaves all as it was, but the ORDER and what is counted."
    private static void singularLeavesNoOrder() {
        StampedWires x = leaks(256);
        x.rest();
        dueSteps("ahead of it", x, 1, 1, 2);
        x.value(0, 257);
        due(10, "step() that is SINGULAR", x.step(), 0);
        dueCounts(21, "behind it", x, 3, 4, 1, 1, 1, 1, 16, 1, 1, -1, 5, 1, 4, 3, 0, 0, 0, 0);
        due(23, "pivot(0, 0)", x.pivot(0, 0), -1);
        due(24, "fills()", x.fills(), -1);
        due(9, "rest() that is SINGULAR", x.rest(), 1);
        dueCounts(21, "behind that", x, 3, 4, 1, 1, 1);
        due(28, "ahead(1, 1, -1, 0)", ahead(x, 1, 1, -1, 0), THREW);
        due(30, "steps(1, 0)", x.steps(1, 0), -1);
        due(29, "shift(1, 1)", x.shift(1, 1), -2);
        x.value(0, 256);
        due(29, "shift(0, 1): SINGULAR with one more", x.shift(0, 1), -2);
        due(29, "shift(1, 1)", x.shift(1, 1), 0);
        due(23, "pivot(0, 0): what is foretold finds none", x.pivot(0, 0), -1);
        due(10, "step() with a new ORDER", x.step(), 1);
        dueCounts(21, "behind it", x, 9, 0, -1);
        due(21, "count(13)", x.count(13), 2);
        due(23, "pivot(0, 0)", x.pivot(0, 0), 0);
    }

    // "if any UNKNOWN is by size 2 to the power of 60 or more, it is WILD, at the first such"
    private static void wildAtTwoToSixty() {
        int[][] cases = {{256, 256, 1, 3}, {256, 256, -1, 3}, {257, 255, 1, 0}, {257, 255, -1, 0}, {257, 256, 1, 3}, {128, 512, 1, 3}, {128, 511, 1, 0}};
        for (int[] c : cases) {
            StampedWires x = gains();
            x.value(1, c[0]);
            x.value(2, c[1]);
            x.level(0, c[2], c[2]);
            String when = c[0] + " * " + c[1] + " * " + c[2];
            due(9, "rest() of " + when, x.rest(), c[3]);
            due(21, "count(10) of " + when, x.count(10), c[3] == 0 ? -1 : 2);
            due(21, "count(4) of " + when, x.count(4), c[3] == 0 ? 1 : 0);
            if (c[3] == 0) dueVolt(9, x, 3, c[0] / 256.0 * (c[1] / 256.0) * c[2] * TWO_TO_60);
        }
        // Without a CAPACITOR a STEP is as a REST at its time.
        StampedWires y = gains();
        y.value(1, 256);
        y.value(2, 255);
        y.level(0, 1, 1);
        y.rest();
        due(10, "step() below it", y.step(), 1);
        y.value(2, 256);
        due(10, "step() at it", y.step(), 0);
        dueCounts(21, "behind it", y, 9, 3, 2);
        due(21, "count(18): a STEP is not spared", y.count(18), 0);
        dueVolt(10, y, 3, 255 / 256.0 * TWO_TO_60);
        due(23, "pivot(0, 0): the ORDER stays", y.pivot(0, 0) >= 0, true);
        y.value(2, 255);
        due(10, "step() below it", y.step(), 1);
    }

    private static void wildAtTheFirst() {
        // NODES 1, 2, 3: 2 to 20, 2 to 60 and more, more than that.
        StampedWires x = gains();
        x.value(1, 9999);
        x.value(2, 9999);
        x.level(0, 999, 999);
        x.rest();
        due(21, "count(10): not the greatest one", x.count(10), 2);
        // A third GAIN by NODE 3 into NODE 4: both are WILD.
        x.part(7, 4, 0, 9999);
        x.control(3, 3, 0);
        due(9, "rest()", x.rest(), 3);
        due(21, "count(10): the first of both", x.count(10), 2);
    }

    // "if v is more than u + 1, u is u + 1, if v is less than u - 1, u is u - 1 (LIMITED both), else u is v"
    private static void limitedByMoreThanOne() {
        // Voltage, LIMITED, ROUNDS: above 0 one arrives, one changes the current, one changes nothing; below 0 the current stays.
        int[][] cases = {{1, 0, 3}, {2, 1, 4}, {3, 2, 5}, {-1, 0, 2}, {-2, 1, 2}, {-3, 2, 3}, {0, 0, 1}};
        for (int[] c : cases) {
            StampedWires x = junction(c[0]);
            due(9, "rest() at " + c[0], x.rest(), 0);
            due(21, "count(19) at " + c[0], x.count(19), c[1]);
            due(21, "count(12) at " + c[0], x.count(12), c[2]);
        }
        // A JUNCTION that is told first is one, too.
        StampedWires first = new StampedWires();
        first.part(5, 1, 0, 64);
        first.part(3, 1, 0, 1);
        first.level(1, 3, 3);
        due(9, "rest()", first.rest(), 0);
        dueCounts(21, "of a JUNCTION told first", first, 12, 5, 1, 0, 0, 0, 0, 0, 2);
        dueFlow(first, 0, 9.0);
        // Each JUNCTION in each ROUND is counted.
        StampedWires x = junction(3);
        x.part(5, 1, 0, 64);
        x.part(5, 0, 1, 64);
        x.rest();
        due(21, "count(19) of three", x.count(19), 6);
    }

    // "each UNKNOWN differs from that ahead of the ROUND by (1 + its size behind it) / 65536 at most"
    private static void doneWhenNothingDiffersByMore() {
        for (int sign = -1; sign <= 1; sign += 2) {
            for (int by = 509; by <= 511; by++) {
                // From 126 + by / 512 to 127; (1 + 127) / 65536 is 1 / 512.
                StampedWires x = new StampedWires();
                x.part(3, 1, 0, 1);
                x.times(0, 0, 512, 0, 0);
                x.level(0, sign * 126, sign * (126 + by));
                x.part(5, 2, 0, 64);
                due(9, "rest()", x.rest(), 0);
                due(10, "step()", x.step(), 1);
                dueVolt(10, x, 1, sign * (126 + by / 512.0));
                int rounds = x.count(12);
                x.level(0, sign * 127, sign * 127);
                due(10, "step()", x.step(), 1);
                dueVolt(10, x, 1, sign * 127.0);
                due(21, "count(12) from " + by + " / 512", x.count(12) - rounds, by == 511 ? 1 : 2);
            }
        }
        // RISE, from, to: 1 / 512 is more than (1 + 126) / 65536; 3 / 467 and 3 / 499 are but a 65536th more than they may be.
        int[][] cases = {{512, 511, 126}, {467, 464, 420}, {499, 496, 393}, {467, 465, 420}};
        for (int[] c : cases) {
            StampedWires x = new StampedWires();
            x.part(3, 1, 0, 1);
            x.times(0, 0, c[0], 0, 0);
            x.level(0, c[2] - 1, c[2] - 1 + c[1]);
            x.part(5, 2, 0, 64);
            x.rest();
            due(21, "count(12)", x.count(12), 2);
            x.step();
            due(21, "count(12)", x.count(12), 4);
            x.level(0, c[2], c[2]);
            x.step();
            due(21, "count(12) to " + c[2], x.count(12), c[1] == 465 ? 5 : 6);
            // From 0, not from what there was: two ROUNDS as at first.
            x.rest();
            due(21, "count(12) of a REST again", x.count(12), c[1] == 465 ? 7 : 8);
        }
        // Without any JUNCTION one ROUND does, however much differs.
        StampedWires y = one(999, 9999);
        y.rest();
        due(21, "count(12)", y.count(12), 1);
    }

    // "behind 16 ROUNDS it is STUCK"
    private static void sixteenRoundsAtMost() {
        // 14 volts are 13 LIMITED ROUNDS and 3 more; 15 are one more than there may be; below 0 it is 16 and 17.
        int[][] cases = {{14, 16, 0, 13}, {15, 16 + 4 * 6, 1, 14 + 4 * 3}, {-16, 16, 0, 15}, {-17, 16 + 4 * 5, 1, 16 + 4 * 4}};
        for (int[] c : cases) {
            StampedWires x = junction(c[0]);
            due(9, "rest() at " + c[0], x.rest(), 0);
            due(21, "count(12) at " + c[0], x.count(12), c[1]);
            due(21, "count(18) at " + c[0], x.count(18), c[2]);
            due(21, "count(19) at " + c[0], x.count(19), c[3]);
            dueCounts(21, "at " + c[0], x, 9, 0, -1);
        }
        for (int v : new int[] {14, 15}) {
            StampedWires x = junction(0);
            x.rest();
            x.level(0, v, v);
            due(10, "step() to " + v, x.step(), v == 14 ? 1 : 0);
            due(21, "count(12)", x.count(12), 17);
            due(21, "count(9)", x.count(9), v == 14 ? 0 : 2);
        }
    }

    // "at the first UNKNOWN that differs the most"
    private static void stuckAtTheFirstThatDiffersMost() {
        for (int n : new int[] {64, 65, 63}) {
            StampedWires x = new StampedWires();
            x.part(3, 1, 0, 1);
            x.part(3, 2, 0, 1);
            x.level(0, 999, 999);
            x.level(1, 999, 999);
            x.part(5, 1, 0, 64);
            x.part(5, 2, 0, n);
            due(9, "rest()", x.rest(), 2);
            due(21, "count(10) with " + n, x.count(10), n > 64 ? 3 : 2);
        }
        // Below 0 nothing differs from the second ROUND on, it is but LIMITED: the first UNKNOWN that there is.
        StampedWires y = junction(-999);
        due(9, "rest() at -999", y.rest(), 2);
        dueCounts(21, "at -999", y, 9, 2, 0);
        dueCounts(21, "at -999", y, 12, 32, 1, 0, 0, 0, 0, 1, 32);
        StampedWires z = new StampedWires();
        z.part(0, 1, 0, 1);
        z.part(3, 2, 0, 1);
        z.level(1, -999, -999);
        z.part(5, 2, 0, 64);
        due(9, "rest() at -999", z.rest(), 2);
        due(21, "count(10): NODE 1, though it never moved, not NODE 2, which did at first", z.count(10), 0);
    }

    // "so from 0 with SCALE 1 / 4, then from what came (guesses, too) with 2 / 4, 3 / 4, 1"; "what fails of these fails"
    private static void sparedInFourQuarters() {
        StampedWires x = junction(56);
        due(9, "rest() at 56", x.rest(), 0);
        dueCounts(21, "at 56: each quarter has 16 ROUNDS", x, 12, 16 + 4 * 16, 1, 0, 0, 0, 0, 1, 16 + 4 * 13);
        dueVolt(9, x, 1, 56.0);
        StampedWires y = junction(57);
        due(9, "rest() at 57", y.rest(), 2);
        dueCounts(21, "at 57: the first quarter is STUCK", y, 12, 16 + 16, 1, 0, 0, 0, 0, 1, 16 + 14);
        dueCounts(21, "at 57", y, 9, 2, 1);
        due(21, "count(4)", y.count(4), 0);
    }

    // "If they are STUCK or WILD"
    private static void sparedFromWild() {
        // SOLVED: once in vain, then till the quarter that is at 2 to the power of 60.
        int[][] cases = {{1, 1 + 4}, {2, 1 + 2}, {4, 1 + 1}};
        for (int[] c : cases) {
            StampedWires x = gains();
            x.value(1, 256);
            x.value(2, 256);
            x.level(0, c[0], c[0]);
            due(9, "rest() of " + c[0], x.rest(), 3);
            dueCounts(21, "of " + c[0], x, 9, 3, 2);
            dueCounts(21, "of " + c[0], x, 12, c[1], 1, 0, 0, 0, 0, 1, 0);
        }
    }

    private static void singularIsNotSpared() {
        // Two COILS side by side: (v, i), then (i, v) of each of 8 NODES go, then 16 is the first equation left.
        StampedWires x = coils();
        due(21, "count(1)", x.count(1), 24);
        due(9, "rest() of 16 COILS", x.rest(), 1);
        dueCounts(21, "of 16 COILS", x, 9, 1, 16);
        dueCounts(21, "of 16 COILS", x, 12, 1, 0, 0, 0, 0, 0, 0, 0);
        due(25, "loop()", x.loop(), 65535);
    }

    private SolvingEdgesTest() { }
}
