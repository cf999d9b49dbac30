import java.util.Arrays;

/** The limits of what is told: promises 1 to 8, 12 and 20, the last that is taken and the first that is not. */
public final class TellingEdgesTest extends Due {
    private static final int[] SMALL = {Integer.MIN_VALUE, -2, -1, 0, 1, 2, 3, 4, 5, 6, 7, 8, 9, 10, Integer.MAX_VALUE};

    public static void main(String[] args) {
        aNewObjectIsTheEmptyCircuit();
        kindsAndNodesOfAPart();
        valuesOfAPart();
        sixteenPartsAtMost();
        theSeventeenthLeavesItReady();
        valuesOfEachPart();
        levelsOnBothSides();
        levelsOfEachKind();
        timesOnBothSides();
        periodsOnBothSides();
        timesOfEachKind();
        controlsOnBothSides();
        controlsOfEachKind();
        controlAndUsedNodes();
        methodsOnBothSides();
        tolerancesOnBothSides();
        whatIsToldAtFirst();
        partsAndSightsOfTold();
        unknownsOfParts();
        whatIsToldMakesItFresh();
        whatIsToldWhileNotReady();
        clearOfTheEmptyAndTheFull();
        clearIsAsAtFirst();
        end("what is told keeps to its limits");
    }

    // "No PART, time 0."
    private static void aNewObjectIsTheEmptyCircuit() {
        StampedWires x = new StampedWires();
        dueCounts(1, "of a new object", x, 0, 0, 0, 0, 0, 0, 0, 1, 1, 16, 0, -1, -1, 0, 0, 0, 0, 0, 0, 0, 0);
        due(1, "step()", x.step(), -1);
        due(1, "run(1)", x.run(1), -1);
        due(1, "value(0, 1)", x.value(0, 1), false);
        due(1, "level(0, 0, 0)", x.level(0, 0, 0), false);
        due(1, "times(0, 0, 1, 0, 0)", x.times(0, 0, 1, 0, 0), false);
        due(1, "control(0, 0, 0)", x.control(0, 0, 0), false);
        due(1, "told(0, 0)", x.told(0, 0), NO_PART);
        due(1, "flow(0, 0)", flow(x, 0, 0), THREW);
        due(1, "charge(0, 0)", charge(x, 0, 0), THREW);
        due(1, "balance(0, 0)", balance(x, 0, 0), THREW);
        due(1, "wave(0, 0, 0)", wave(x, 0, 0, 0), THREW);
        due(1, "breaks(0, 0)", x.breaks(0, 0), -1);
        due(1, "entry(0, 0, 0)", entry(x, 0, 0, 0), THREW);
        due(1, "pivot(0, 0)", x.pivot(0, 0), -1);
        due(1, "fills()", x.fills(), -1);
        due(1, "loop()", x.loop(), 0);
        due(1, "floating()", x.floating(), 0);
        due(1, "islands()", x.islands(), 1);
        due(1, "ahead(0, 1, -1, 0)", ahead(x, 0, 1, -1, 0), THREW);
        due(1, "shift(0, 0)", x.shift(0, 0), -2);
        due(1, "steps(1, 0)", x.steps(1, 0), -1);
        due(1, "clear()", x.clear(), 0);
    }

    // "NODES: 0 to 8", "each from a NODE a to another one b", KINDS 0 to 7; "NONE: others, a is b".
    private static void kindsAndNodesOfAPart() {
        for (int kind : SMALL) {
            for (int a : SMALL) {
                for (int b : SMALL) {
                    StampedWires x = new StampedWires();
                    boolean good = in(kind, 0, 7) && in(a, 0, 8) && in(b, 0, 8) && a != b;
                    String call = "part(" + kind + ", " + a + ", " + b + ", 5)";
                    due(2, call, x.part(kind, a, b, 5), good ? 0 : -1);
                    due(2, "count(0) behind " + call, x.count(0), good ? 1 : 0);
                    int nodes = good ? (1 << a | 1 << b) & ~1 : 0;
                    due(2, "count(2) behind " + call, x.count(2), nodes);
                }
            }
        }
    }

    // "with a VALUE n, 1 to 9999"
    private static void valuesOfAPart() {
        int[] n = {Integer.MIN_VALUE, -1, 0, 1, 2, 9998, 9999, 10000, 10001, Integer.MAX_VALUE};
        for (int kind = 0; kind < 8; kind++) {
            for (int v : n) {
                StampedWires x = new StampedWires();
                boolean good = in(v, 1, 9999);
                due(2, "part(" + kind + ", 1, 0, " + v + ")", x.part(kind, 1, 0, v), good ? 0 : -1);
                due(2, "told(0, 3)", x.told(0, 3), good ? v : NO_PART);
                due(2, "part(" + kind + ", 1, 0, 7)", x.part(kind, 1, 0, 7), good ? 1 : 0);
            }
        }
    }

    // "PARTS: 16 at most, numbered as told"; "NONE: .. 16 there are."
    private static void sixteenPartsAtMost() {
        StampedWires x = new StampedWires();
        for (int i = 0; i < 16; i++) {
            due(2, "count(0)", x.count(0), i);
            due(2, "told(" + i + ", 0) ahead of it", x.told(i, 0), NO_PART);
            due(2, "part " + i, x.part(i % 8, 1 + i % 8, 0, 100 + i), i);
        }
        for (int kind = 0; kind < 8; kind++) due(2, "a 17th of the kind " + kind, x.part(kind, 1, 0, 1), -1);
        due(2, "count(0)", x.count(0), 16);
        for (int i = 0; i < 16; i++) {
            due(2, "told(" + i + ", 0)", x.told(i, 0), i % 8);
            due(2, "told(" + i + ", 1)", x.told(i, 1), 1 + i % 8);
            due(2, "told(" + i + ", 3)", x.told(i, 3), 100 + i);
        }
        due(2, "told(16, 0)", x.told(16, 0), NO_PART);
        due(2, "count(2): all nodes", x.count(2), 510);
        // 8 nodes, 2 VOLTAGES, 2 COILS.
        due(2, "count(1)", x.count(1), 12);
    }

    private static void theSeventeenthLeavesItReady() {
        StampedWires x = new StampedWires();
        for (int i = 0; i < 16; i++) x.part(0, 1 + i % 8, (2 + i) % 8, 1 + i);
        due(9, "rest() of 16 RESISTORS", x.rest(), 0);
        due(10, "step()", x.step(), 1);
        due(2, "a 17th", x.part(0, 1, 0, 1), -1);
        due(2, "count(4) behind it", x.count(4), 1);
        due(2, "count(3) behind it", x.count(3), 1);
        due(2, "count(13) behind it", x.count(13), 1);
        due(2, "fills() behind it", x.fills() >= 0, true);
        due(2, "step() behind it", x.step(), 1);
        due(2, "count(13): the ORDER is kept", x.count(13), 1);
    }

    // "Another VALUE of a PART: true; false: others."
    private static void valuesOfEachPart() {
        int[] n = {Integer.MIN_VALUE, -1, 0, 1, 2, 9998, 9999, 10000, Integer.MAX_VALUE};
        for (int many : new int[] {0, 1, 8, 16}) {
            StampedWires x = new StampedWires();
            for (int i = 0; i < many; i++) x.part(i % 8, 1, 0, 50);
            for (int part : new int[] {Integer.MIN_VALUE, -1, 0, many - 1, many, many + 1, 15, 16, 17, Integer.MAX_VALUE}) {
                int is = 50;
                for (int v : n) {
                    boolean good = in(part, 0, many - 1) && in(v, 1, 9999);
                    due(3, "value(" + part + ", " + v + ") of " + many, x.value(part, v), good);
                    if (good) is = v;
                    due(3, "told(" + part + ", 3)", x.told(part, 3), in(part, 0, many - 1) ? is : NO_PART);
                }
                x.value(part, 50);
            }
        }
    }

    // "LOW and HIGH (-999 to 999 each)"
    private static void levelsOnBothSides() {
        int[] edges = {Integer.MIN_VALUE, -1000, -999, -998, 0, 998, 999, 1000, Integer.MAX_VALUE};
        for (int low : edges) {
            for (int high : edges) {
                StampedWires x = new StampedWires();
                x.part(4, 1, 0, 1);
                x.level(0, 3, -4);
                boolean good = in(low, -999, 999) && in(high, -999, 999);
                due(4, "level(0, " + low + ", " + high + ")", x.level(0, low, high), good);
                due(4, "told(0, 4)", x.told(0, 4), good ? low : 3);
                due(4, "told(0, 5)", x.told(0, 5), good ? high : -4);
            }
        }
    }

    // "of a WAVE: .. false: others, it has none."
    private static void levelsOfEachKind() {
        StampedWires x = eachKind();
        for (int part : new int[] {Integer.MIN_VALUE, -1, 0, 1, 2, 3, 4, 5, 6, 7, 8, 15, 16, Integer.MAX_VALUE}) {
            boolean good = in(part, 0, 7) && isWave(part);
            due(4, "level(" + part + ", 5, 6)", x.level(part, 5, 6), good);
            due(4, "told(" + part + ", 4)", x.told(part, 4), !in(part, 0, 7) ? NO_PART : good ? 5 : 0);
            due(4, "told(" + part + ", 5)", x.told(part, 5), !in(part, 0, 7) ? NO_PART : good ? 6 : 0);
        }
    }

    // "DELAY (0 to 9999), RISE (1 to 999), WIDTH (0 to 999)"
    private static void timesOnBothSides() {
        int[] delays = {Integer.MIN_VALUE, -1, 0, 1, 9998, 9999, 10000, Integer.MAX_VALUE};
        int[] rises = {Integer.MIN_VALUE, -1, 0, 1, 2, 998, 999, 1000, Integer.MAX_VALUE};
        int[] widths = {Integer.MIN_VALUE, -1, 0, 1, 998, 999, 1000, Integer.MAX_VALUE};
        for (int delay : delays) for (int rise : rises) for (int width : widths) {
            boolean good = in(delay, 0, 9999) && in(rise, 1, 999) && in(width, 0, 999);
            dueTimes(new int[] {delay, rise, width, 0}, good);
            dueTimes(new int[] {delay, rise, width, 9999}, good);
        }
    }

    // "PERIOD (0, or 2 * RISE + WIDTH to 9999)"
    private static void periodsOnBothSides() {
        for (int rise : new int[] {1, 2, 500, 998, 999}) for (int width : new int[] {0, 1, 500, 998, 999}) {
            int least = rise + rise + width;
            int[] periods = {Integer.MIN_VALUE, -9999, -least, -2, -1, 0, 1, least - 1, least, least + 1, 9998, 9999, 10000, Integer.MAX_VALUE};
            for (int period : periods) dueTimes(new int[] {7, rise, width, period}, period == 0 || in(period, least, 9999));
        }
    }

    private static void dueTimes(int[] t, boolean good) {
        StampedWires x = new StampedWires();
        x.part(3, 1, 0, 1);
        x.times(0, 11, 12, 13, 40);
        due(5, "times(0, " + Arrays.toString(t) + ")", x.times(0, t[0], t[1], t[2], t[3]), good);
        int[] were = {11, 12, 13, 40};
        for (int w = 0; w < 4; w++) due(5, "told(0, " + (6 + w) + ") behind " + Arrays.toString(t), x.told(0, 6 + w), good ? t[w] : were[w]);
    }

    private static void timesOfEachKind() {
        StampedWires x = eachKind();
        for (int part : new int[] {Integer.MIN_VALUE, -1, 0, 1, 2, 3, 4, 5, 6, 7, 8, 15, 16, Integer.MAX_VALUE}) {
            boolean good = in(part, 0, 7) && isWave(part);
            due(5, "times(" + part + ", 5, 6, 7, 90)", x.times(part, 5, 6, 7, 90), good);
            int[] told = {5, 6, 7, 90};
            for (int w = 0; w < 4; w++) due(5, "told(" + part + ", " + (6 + w) + ")", x.told(part, 6 + w), !in(part, 0, 7) ? NO_PART : good ? told[w] : 0);
        }
    }

    // "c and d of a GAIN: true; false: others"; a NODE is 0 to 8.
    private static void controlsOnBothSides() {
        for (int c : SMALL) for (int d : SMALL) {
            StampedWires x = new StampedWires();
            x.part(7, 1, 0, 1);
            x.control(0, 3, 4);
            boolean good = in(c, 0, 8) && in(d, 0, 8);
            due(6, "control(0, " + c + ", " + d + ")", x.control(0, c, d), good);
            due(6, "told(0, 10)", x.told(0, 10), good ? c : 3);
            due(6, "told(0, 11)", x.told(0, 11), good ? d : 4);
        }
    }

    // "false: others, it is none."
    private static void controlsOfEachKind() {
        StampedWires x = eachKind();
        for (int part : new int[] {Integer.MIN_VALUE, -1, 0, 1, 2, 3, 4, 5, 6, 7, 8, 15, 16, Integer.MAX_VALUE}) {
            due(6, "control(" + part + ", 2, 3)", x.control(part, 2, 3), part == 7);
            due(6, "told(" + part + ", 10)", x.told(part, 10), !in(part, 0, 7) ? NO_PART : part == 7 ? 2 : 0);
            due(6, "told(" + part + ", 11)", x.told(part, 11), !in(part, 0, 7) ? NO_PART : part == 7 ? 3 : 0);
        }
        due(6, "count(2)", x.count(2), 2 + 4 + 8);
    }

    // "USED is each NODE but the GROUND that is the a, b, c or d of a PART (c, d of GAINS alone)."
    private static void controlAndUsedNodes() {
        StampedWires x = new StampedWires();
        x.part(7, 2, 5, 1);
        due(6, "count(2): c, d are the GROUND", x.count(2), 4 + 32);
        due(6, "count(1)", x.count(1), 2);
        x.control(0, 8, 1);
        due(6, "count(2)", x.count(2), 2 + 4 + 32 + 256);
        due(6, "count(1)", x.count(1), 4);
        x.control(0, 0, 8);
        due(6, "count(2): 1 is USED no more", x.count(2), 4 + 32 + 256);
        x.control(0, 5, 2);
        due(6, "count(2): c and d may be b and a", x.count(2), 4 + 32);
    }

    // "The METHOD (0 to 2)"
    private static void methodsOnBothSides() {
        for (int m : new int[] {Integer.MIN_VALUE, -2, -1, 0, 1, 2, 3, 4, Integer.MAX_VALUE}) {
            StampedWires x = new StampedWires();
            due(7, "count(7) at first", x.count(7), 1);
            due(7, "method(" + m + ")", x.method(m), in(m, 0, 2));
            due(7, "count(7)", x.count(7), in(m, 0, 2) ? m : 1);
        }
    }

    // "TOLERANCE: 1 to 1024 (at first 16)."
    private static void tolerancesOnBothSides() {
        for (int n : new int[] {Integer.MIN_VALUE, -1024, -1, 0, 1, 2, 1023, 1024, 1025, Integer.MAX_VALUE}) {
            StampedWires x = new StampedWires();
            due(8, "count(8) at first", x.count(8), 16);
            due(8, "tolerance(" + n + ")", x.tolerance(n), in(n, 1, 1024));
            due(8, "count(8)", x.count(8), in(n, 1, 1024) ? n : 16);
        }
    }

    // "LOW, HIGH (at first 0, 0), DELAY, RISE, WIDTH, PERIOD (at first 0, 1, 0, 0)"; c, d "at first 0, 0".
    private static void whatIsToldAtFirst() {
        StampedWires x = eachKind();
        for (int kind = 0; kind < 8; kind++) {
            int[] first = {kind, 1, 0, 1, 0, 0, 0, isWave(kind) ? 1 : 0, 0, 0, 0, 0};
            for (int w = 0; w < 12; w++) due(20, "told(" + kind + ", " + w + ")", x.told(kind, w), first[w]);
        }
    }

    private static void partsAndSightsOfTold() {
        for (int many : new int[] {0, 1, 15, 16}) {
            StampedWires x = new StampedWires();
            for (int i = 0; i < many; i++) x.part(0, 3, 4, 5);
            for (int part : new int[] {Integer.MIN_VALUE, -1, 0, many - 1, many, 15, 16, Integer.MAX_VALUE}) {
                for (int w : new int[] {Integer.MIN_VALUE, -1, 0, 1, 2, 3, 11, 12, 13, Integer.MAX_VALUE}) {
                    int due = in(part, 0, many - 1) && in(w, 0, 12) ? w == 12 ? -1 : w == 0 || w == 11 ? 0 : 2 + w : NO_PART;
                    due(20, "told(" + part + ", " + w + ") of " + many, x.told(part, w), due);
                }
            }
        }
    }

    // "12: which UNKNOWN its current is (NONE: none)"; with 16 COILS on 8 NODES there are 24 of them.
    private static void unknownsOfParts() {
        StampedWires x = new StampedWires();
        for (int i = 0; i < 16; i++) {
            x.part(i % 2 == 0 ? 2 : 3, 1 + i % 8, 0, 1);
            due(20, "told(0, 12): the nodes come first", x.told(0, 12), Math.min(8, i + 1));
            due(20, "told(" + i + ", 12)", x.told(i, 12), Math.min(8, i + 1) + i);
        }
        due(21, "count(1)", x.count(1), 24);
        StampedWires y = eachKind();
        int[] unknown = {-1, -1, 1, 2, -1, -1, -1, -1};
        for (int kind = 0; kind < 8; kind++) due(20, "told(" + kind + ", 12)", y.told(kind, 12), unknown[kind]);
        y.control(7, 4, 0);
        due(20, "told(2, 12): a node more is USED", y.told(2, 12), 2);
    }

    // "What else is told of a PART (also if it is as it was) while it is READY makes it FRESH and WANTED 1."
    private static void whatIsToldMakesItFresh() {
        String[] calls = {"value", "level", "times", "value, as it was", "level, as it was", "times, as they were"};
        for (int k = 0; k < 6; k++) {
            StampedWires x = one(8, 4);
            x.rest();
            dueSteps("ahead of it", x, 1, 1, 1, 1, 2, 4);
            dueCounts(21, "ahead of " + calls[k], x, 3, 10, 1, 0, 8);
            boolean told = k == 0 ? x.value(1, 5) : k == 1 ? x.level(0, 8, 7) : k == 2 ? x.times(0, 50, 1, 0, 0)
                : k == 3 ? x.value(1, 4) : k == 4 ? x.level(0, 8, 8) : x.times(0, 0, 1, 0, 0);
            due(3, calls[k], told, true);
            dueCounts(21, "behind " + calls[k], x, 3, 10, 1, 1, 1);
            due(23, "pivot(0, 0): the ORDER stays", x.pivot(0, 0), 0);
            dueSteps("behind " + calls[k], x, 1, 1, 2);
        }
        StampedWires x = one(8, 4);
        x.part(7, 1, 0, 1);
        x.rest();
        dueSteps("ahead of it", x, 1, 1, 1, 1, 2, 4);
        x.method(0);
        x.tolerance(900);
        dueCounts(21, "behind method and tolerance", x, 3, 10, 1, 0, 8);
        x.control(2, 0, 0);
        dueCounts(21, "behind control", x, 3, 0, 0, 0, 1);
    }

    private static void whatIsToldWhileNotReady() {
        StampedWires x = one(8, 4);
        due(3, "value(1, 5)", x.value(1, 5), true);
        due(4, "level(0, 3, 3)", x.level(0, 3, 3), true);
        due(5, "times(0, 1, 1, 1, 3)", x.times(0, 1, 1, 1, 3), true);
        dueCounts(21, "while it is not READY", x, 3, 0, 0, 0, 1);
    }

    // "No PART any more, all as at first: how many there were."
    private static void clearOfTheEmptyAndTheFull() {
        for (int many = 0; many <= 16; many++) {
            StampedWires x = new StampedWires();
            for (int i = 0; i < many; i++) x.part(i % 8, 1 + i % 8, 0, 9);
            if (many == 16) due(2, "a 17th", x.part(0, 1, 0, 1), -1);
            due(12, "clear()", x.clear(), many);
            due(12, "clear() again", x.clear(), 0);
            due(12, "told(0, 0)", x.told(0, 0), NO_PART);
            due(12, "count(2)", x.count(2), 0);
            for (int i = 0; i < 16; i++) due(12, "part behind clear()", x.part(0, 1, 0, 1), i);
            due(12, "a 17th behind clear()", x.part(0, 1, 0, 1), -1);
        }
    }

    private static void clearIsAsAtFirst() {
        StampedWires x = charged();
        x.part(7, 2, 0, 9);
        x.control(3, 1, 0);
        x.part(5, 1, 0, 64);
        x.method(2);
        x.tolerance(1);
        x.rest();
        x.run(30);
        due(12, "count(17): something was FORCED", x.count(17) > 0, true);
        due(12, "clear()", x.clear(), 5);
        dueCounts(12, "behind clear()", x, 0, 0, 0, 0, 0, 0, 0, 1, 1, 16, 0, -1, -1, 0, 0, 0, 0, 0, 0, 0, 0);
        for (int v = 0; v < 9; v++) dueVolt(12, x, v, 0.0);
        due(12, "step()", x.step(), -1);
        due(12, "run(5)", x.run(5), -1);
        due(12, "fills()", x.fills(), -1);
        due(12, "pivot(0, 0)", x.pivot(0, 0), -1);
        due(12, "entry(0, 0, 0)", entry(x, 0, 0, 0), THREW);
        due(12, "breaks(0, 0)", x.breaks(0, 0), -1);
        due(12, "islands()", x.islands(), 1);
        // What was told of PARTS is forgotten, too.
        for (int kind : new int[] {3, 7, 4}) x.part(kind, 1, 0, 2);
        for (int i = 0; i < 3; i++) for (int w = 4; w < 12; w++) due(12, "told(" + i + ", " + w + ")", x.told(i, w), w == 7 && i != 1 ? 1 : 0);
        // Nor is there a JUNCTION any more: one ROUND does.
        x.level(2, 5, 5);
        x.part(0, 1, 0, 1);
        due(12, "rest()", x.rest(), 0);
        dueCounts(12, "behind clear() and rest()", x, 12, 1, 1, 0, 0, 0, 0, 0, 0);
        dueSteps("behind clear()", x, 1, 1, 1, 1, 2);
    }

    private TellingEdgesTest() { }
}
