import java.util.ArrayList;
import java.util.List;
import java.util.function.ToLongFunction;

/**
 * What a call leaves that is refused, throws or fails: all answers behind it against all answers without it.
 * No object is asked for more than the 512 calls that the document allows, so each is made anew for every few questions.
 */
public final class LeftAsItWasTest extends Due {
    private static final int CALLS_AT_ONCE = 380;

    /** A call with its name and, where it is refused, what it answers then. */
    private record Call(String name, ToLongFunction<StampedWires> made, long answer) { }

    private record Recipe(String name, ToLongFunction<StampedWires> made, boolean ready, boolean full) { }

    private static final List<Call> QUESTIONS = new ArrayList<>();
    private static final List<Recipe> RECIPES = new ArrayList<>();

    public static void main(String[] args) {
        askForAll();
        makeRecipes();
        recipesAreWhatTheySay();
        for (Recipe recipe : RECIPES) {
            long[] was = answers(recipe, none());
            for (Call call : refused(recipe)) leavesAll(recipe, call, was);
        }
        restThatFailsLeavesAll();
        stepThatFailsLeavesAll();
        runThatFailsLeavesWhatItReached();
        clearLeavesWhatANewOneHas();
        end("what is refused or fails leaves all as it was");
    }

    private static Call none() { return new Call("nothing", x -> 0, 0); }

    // ---- all that can be asked

    private static void ask(String name, ToLongFunction<StampedWires> made) { QUESTIONS.add(new Call(name, made, 0)); }

    private static void askForAll() {
        for (int w = 0; w < 20; w++) { int what = w; ask("count(" + w + ")", x -> x.count(what)); }
        for (int p = 0; p < 16; p++) askOfPart(p);
        for (int v = 0; v < 9; v++) askOfNode(v);
        for (int t = 0; t < 20; t += 19) for (int i = 0; i < 21; i++) { int time = t, k = i; ask("breaks(" + t + ", " + i + ")", x -> x.breaks(time, k)); }
        for (int e = 0; e < 12; e++) for (int u = 0; u < 12; u++) {
            int equation = e, unknown = u;
            ask("entry(" + e + ", " + u + ", 0)", x -> entry(x, equation, unknown, 0));
            if (e == u) ask("entry(" + e + ", " + u + ", 1)", x -> entry(x, equation, unknown, 1));
        }
        for (int i = 0; i < 24; i++) { int k = i; ask("pivot(" + i + ", 0)", x -> x.pivot(k, 0)); ask("pivot(" + i + ", 1)", x -> x.pivot(k, 1)); }
        ask("fills()", StampedWires::fills);
        ask("loop()", StampedWires::loop);
        ask("floating()", StampedWires::floating);
        ask("islands()", StampedWires::islands);
        for (int w = 0; w < 3; w++) { int what = w; ask("steps(40, " + w + ")", x -> x.steps(40, what)); }
    }

    private static void askOfPart(int p) {
        for (int w = 0; w < 13; w++) { int what = w; ask("told(" + p + ", " + w + ")", x -> x.told(p, what)); }
        for (int w = 0; w < 2; w++) {
            int what = w;
            ask("flow(" + p + ", " + w + ")", x -> flow(x, p, what));
            ask("charge(" + p + ", " + w + ")", x -> charge(x, p, what));
            ask("wave(" + p + ", 7, " + w + ")", x -> wave(x, p, 7, what));
        }
        ask("shift(" + p + ", 2)", x -> x.shift(p, 2));
    }

    private static void askOfNode(int v) {
        for (int w = 0; w < 2; w++) {
            int what = w;
            ask("volt(" + v + ", " + w + ")", x -> volt(x, v, what));
            ask("balance(" + v + ", " + w + ")", x -> balance(x, v, what));
            ask("ahead(" + v + ", 12, -1, " + w + ")", x -> ahead(x, v, 12, -1, what));
        }
        ask("milli(" + v + ")", x -> x.milli(v));
    }

    private static long[] answers(Recipe recipe, Call call) {
        long[] all = new long[QUESTIONS.size()];
        StampedWires x = null;
        for (int k = 0; k < all.length; k++) {
            if (k % CALLS_AT_ONCE == 0) {
                x = new StampedWires();
                recipe.made().applyAsLong(x);
                due(0, call.name() + " behind " + recipe.name(), call.made().applyAsLong(x), call.answer());
            }
            all[k] = QUESTIONS.get(k).made().applyAsLong(x);
        }
        return all;
    }

    private static void leavesAll(Recipe recipe, Call call, long[] was) {
        long[] is = answers(recipe, call);
        for (int k = 0; k < was.length; k++) due(0, QUESTIONS.get(k).name() + " behind " + recipe.name() + ", " + call.name(), is[k], was[k]);
    }

    // ---- what comes ahead

    private static void recipe(String name, ToLongFunction<StampedWires> made, boolean ready, boolean full) {
        RECIPES.add(new Recipe(name, made, ready, full));
    }

    private static void makeRecipes() {
        recipe("a new one", x -> 0, false, false);
        recipe("an empty one at REST", x -> x.rest(), true, false);
        recipe("parts", x -> mixed(x), false, false);
        recipe("parts at REST", x -> mixed(x) + x.rest(), true, false);
        recipe("parts at a BREAK", x -> mixed(x) + x.rest() + x.run(9), true, false);
        recipe("parts in the midst of STEPS", x -> mixed(x) + (x.tolerance(512) ? 1 : 0) + x.rest() + x.run(26), true, false);
        recipe("parts by another METHOD", x -> mixed(x) + (x.method(2) ? 1 : 0) + (x.tolerance(512) ? 1 : 0) + x.rest() + x.run(26), true, false);
        recipe("a REST that failed", x -> mixed(x) + x.rest() + x.run(9) + tooMuch(x) + x.rest(), true, false);
        recipe("a REST that is SINGULAR", x -> mixed(x) + x.part(3, 1, 0, 1) + x.rest(), false, false);
        recipe("a cleared one", x -> mixed(x) + x.rest() + x.clear(), false, false);
        recipe("a full one", x -> full(x), false, true);
        recipe("a full one on its way", x -> full(x) + x.rest() + x.run(5), true, true);
    }

    // A recipe that misses what it is for would prove nothing.
    private static void recipesAreWhatTheySay() {
        int grown = 0, failed = 0;
        for (Recipe recipe : RECIPES) {
            StampedWires x = new StampedWires();
            recipe.made().applyAsLong(x);
            due(0, "count(4) of " + recipe.name(), x.count(4), recipe.ready() ? 1 : 0);
            due(0, "full is " + recipe.name(), x.count(0) == 16, recipe.full());
            if (x.count(5) == 0 && x.count(6) > 1) grown++;
            if (x.count(9) != 0) failed++;
        }
        due(0, "some have grown beyond FRESH", grown > 1, true);
        due(0, "some have failed", failed, 2);
    }

    /** One PART of each KIND: 0 VOLTAGE, 1 RESISTOR, 2 CAPACITOR, 3 COIL, 4 CURRENT, 5 JUNCTION, 6 SWITCH, 7 GAIN. */
    private static long mixed(StampedWires x) {
        x.part(3, 1, 0, 1);
        x.level(0, 2, 6);
        x.times(0, 3, 2, 4, 30);
        x.part(0, 1, 2, 3);
        x.part(1, 2, 0, 40);
        x.part(2, 2, 3, 50);
        x.part(4, 0, 3, 1);
        x.level(4, 1, 2);
        x.times(4, 5, 1, 3, 0);
        x.part(5, 3, 0, 64);
        x.part(6, 3, 0, 9);
        x.level(6, -1, 1);
        x.times(6, 0, 6, 9, 0);
        x.part(7, 4, 0, 200);
        x.control(7, 2, 3);
        return 0;
    }

    /** 999 volts through 1 to the JUNCTION. */
    private static long tooMuch(StampedWires x) {
        x.level(0, 999, 999);
        x.value(1, 1);
        return 0;
    }

    private static long full(StampedWires x) {
        mixed(x);
        for (int i = 8; i < 16; i++) x.part(0, 1 + i % 4, 5 + i % 3, i);
        return 0;
    }

    // ---- what is refused

    private static List<Call> refused(Recipe recipe) {
        List<Call> calls = new ArrayList<>();
        refusedParts(calls, recipe.full());
        refusedTellings(calls);
        refusedQuestions(calls);
        if (!recipe.ready()) refusedWhileNotReady(calls);
        return calls;
    }

    private static void refusedParts(List<Call> calls, boolean full) {
        int[][] bad = {{-1, 1, 0, 5}, {8, 1, 0, 5}, {0, -1, 0, 5}, {0, 9, 0, 5}, {0, 1, -1, 5}, {0, 1, 9, 5}, {0, 2, 2, 5}, {0, 0, 0, 5}, {0, 1, 0, 0}, {0, 1, 0, 10000}};
        for (int[] b : bad) calls.add(new Call("a wrong part", x -> x.part(b[0], b[1], b[2], b[3]), -1));
        if (full) for (int kind = 0; kind < 8; kind++) { int k = kind; calls.add(new Call("a 17th part", x -> x.part(k, 1, 0, 5), -1)); }
    }

    private static void refusedTellings(List<Call> calls) {
        int[][] values = {{-1, 5}, {16, 5}, {0, 0}, {1, 10000}, {2, -1}};
        for (int[] b : values) calls.add(new Call("a wrong value", x -> x.value(b[0], b[1]) ? 1 : 0, 0));
        int[][] levels = {{-1, 1, 1}, {16, 1, 1}, {1, 1, 1}, {2, 1, 1}, {3, 1, 1}, {5, 1, 1}, {7, 1, 1}, {0, -1000, 1}, {0, 1, -1000}, {4, 1000, 1}, {6, 1, 1000}};
        for (int[] b : levels) calls.add(new Call("a wrong level", x -> x.level(b[0], b[1], b[2]) ? 1 : 0, 0));
        int[][] times = {{-1, 1, 1, 1, 0}, {16, 1, 1, 1, 0}, {1, 1, 1, 1, 0}, {5, 1, 1, 1, 0}, {7, 1, 1, 1, 0}, {0, -1, 1, 1, 0}, {0, 10000, 1, 1, 0}, {0, 1, 0, 1, 0},
            {4, 1, 1000, 1, 0}, {4, 1, 1, -1, 0}, {6, 1, 1, 1000, 0}, {6, 1, 1, 1, 2}, {6, 1, 1, 1, -1}, {6, 1, 1, 1, 10000}};
        for (int[] b : times) calls.add(new Call("wrong times", x -> x.times(b[0], b[1], b[2], b[3], b[4]) ? 1 : 0, 0));
        int[][] controls = {{-1, 1, 2}, {16, 1, 2}, {0, 1, 2}, {5, 1, 2}, {6, 1, 2}, {7, -1, 2}, {7, 9, 2}, {7, 1, -1}, {7, 1, 9}};
        for (int[] b : controls) calls.add(new Call("a wrong control", x -> x.control(b[0], b[1], b[2]) ? 1 : 0, 0));
        for (int b : new int[] {-1, 3}) calls.add(new Call("a wrong method", x -> x.method(b) ? 1 : 0, 0));
        for (int b : new int[] {0, 1025, -1}) calls.add(new Call("a wrong tolerance", x -> x.tolerance(b) ? 1 : 0, 0));
        for (int b : new int[] {0, -1, 61}) calls.add(new Call("a wrong run", x -> x.run(b), -1));
    }

    private static void refusedQuestions(List<Call> calls) {
        int[][] twos = {{-1, 0}, {9, 0}, {0, -1}, {0, 2}};
        for (int[] b : twos) calls.add(new Call("a wrong volt", x -> volt(x, b[0], b[1]), THREW));
        calls.add(new Call("a wrong milli", x -> x.milli(9), NO_PART));
        for (int[] b : new int[][] {{-1, 0}, {16, 0}, {0, -1}, {0, 2}}) {
            calls.add(new Call("a wrong flow", x -> flow(x, b[0], b[1]), THREW));
            calls.add(new Call("a wrong charge", x -> charge(x, b[0], b[1]), THREW));
        }
        for (int[] b : new int[][] {{0, 0}, {9, 0}, {1, 2}}) calls.add(new Call("a wrong balance", x -> balance(x, b[0], b[1]), THREW));
        for (int[] b : new int[][] {{1, 0, 0}, {0, -1, 0}, {0, 100000, 0}, {0, 0, 2}}) calls.add(new Call("a wrong wave", x -> wave(x, b[0], b[1], b[2]), THREW));
        for (int[] b : new int[][] {{-1, 0}, {10000, 0}, {0, -1}, {0, 21}}) calls.add(new Call("a wrong breaks", x -> x.breaks(b[0], b[1]), -1));
        for (int[] b : new int[][] {{-1, 0}, {16, 0}, {0, -1}, {0, 13}}) calls.add(new Call("a wrong told", x -> x.told(b[0], b[1]), NO_PART));
        for (int b : new int[] {-1, 20}) calls.add(new Call("a wrong count", x -> x.count(b), -1));
        for (int[] b : new int[][] {{-1, 0, 0}, {0, 24, 0}, {0, 0, 2}}) calls.add(new Call("a wrong entry", x -> entry(x, b[0], b[1], b[2]), THREW));
        for (int[] b : new int[][] {{-1, 0}, {24, 0}, {0, 2}}) calls.add(new Call("a wrong pivot", x -> x.pivot(b[0], b[1]), -1));
        for (int[] b : new int[][] {{9, 1, -1, 0}, {1, 0, -1, 0}, {1, 61, -1, 0}, {1, 1, -2, 0}, {1, 1, 3, 0}, {1, 1, 1, 2}}) {
            calls.add(new Call("a wrong ahead", x -> ahead(x, b[0], b[1], b[2], b[3]), THREW));
        }
        for (int[] b : new int[][] {{-1, 1}, {16, 1}, {0, -1}, {0, 9}}) calls.add(new Call("a wrong shift", x -> x.shift(b[0], b[1]), -2));
        for (int[] b : new int[][] {{0, 0}, {61, 0}, {5, -1}, {5, 3}}) calls.add(new Call("a wrong steps", x -> x.steps(b[0], b[1]), -1));
    }

    private static void refusedWhileNotReady(List<Call> calls) {
        calls.add(new Call("step() while it is not READY", StampedWires::step, -1));
        calls.add(new Call("run(9) while it is not READY", x -> x.run(9), -1));
        calls.add(new Call("ahead while it is not READY", x -> ahead(x, 1, 9, 0, 0), THREW));
        calls.add(new Call("steps while it is not READY", x -> x.steps(9, 0), -1));
        calls.add(new Call("flow while it is not READY", x -> flow(x, 0, 0), THREW));
        calls.add(new Call("balance while it is not READY", x -> balance(x, 1, 0), THREW));
    }

    // ---- what fails

    /** All but what is counted, the ORDER, FAILED and what was stamped. */
    private static boolean stays(String question) {
        if (question.startsWith("entry") || question.startsWith("pivot") || question.startsWith("fills")) return false;
        for (int w : new int[] {9, 10, 12, 13, 14, 16, 18, 19}) if (question.equals("count(" + w + ")")) return false;
        return true;
    }

    private static void leavesAllButWhatIsCounted(Recipe recipe, Call call) {
        long[] was = answers(recipe, none()), is = answers(recipe, call);
        for (int k = 0; k < was.length; k++) {
            String question = QUESTIONS.get(k).name();
            if (stays(question)) due(0, question + " behind " + recipe.name() + ", " + call.name(), is[k], was[k]);
        }
    }

    // "FAILED (0: it is READY; else it is as it was)"
    private static void restThatFailsLeavesAll() {
        ToLongFunction<StampedWires> far = x -> mixed(x) + x.rest() + x.run(9) + tooMuch(x);
        leavesAllButWhatIsCounted(new Recipe("far too much", far, true, false), new Call("rest()", StampedWires::rest, 2));
        ToLongFunction<StampedWires> farNotReady = x -> mixed(x) + tooMuch(x);
        leavesAllButWhatIsCounted(new Recipe("far too much, not READY", farNotReady, false, false), new Call("rest()", StampedWires::rest, 2));
        ToLongFunction<StampedWires> twice = x -> mixed(x) + x.part(3, 1, 0, 1);
        leavesAllButWhatIsCounted(new Recipe("two VOLTAGES", twice, false, false), new Call("rest()", StampedWires::rest, 1));
    }

    // "What fails leaves all as it was, but the ORDER and what is counted."
    private static void stepThatFailsLeavesAll() {
        ToLongFunction<StampedWires> far = x -> mixed(x) + x.rest() + x.run(9) + (x.level(4, -999, -999) ? 1 : 0);
        leavesAllButWhatIsCounted(new Recipe("far too much", far, true, false), new Call("step()", StampedWires::step, 0));
        leavesAllButWhatIsCounted(new Recipe("far too much", far, true, false), new Call("run(60)", x -> x.run(60), 0));
        // Longer STEPS are REFUSED first: the SWITCH closes at the time 11.
        ToLongFunction<StampedWires> shut = x -> {
            x.part(3, 1, 0, 1);
            x.level(0, 900, 900);
            x.times(0, 9999, 1, 0, 0);
            x.part(6, 1, 2, 9999);
            x.level(1, -10, 10);
            x.times(1, 0, 20, 0, 0);
            x.part(5, 2, 0, 64);
            x.part(1, 2, 3, 5);
            return x.rest() + x.run(10);
        };
        leavesAllButWhatIsCounted(new Recipe("a SWITCH", shut, true, false), new Call("step()", StampedWires::step, 0));
    }

    // "or one fails: how much is gone": those that were taken stay.
    private static void runThatFailsLeavesWhatItReached() {
        ToLongFunction<StampedWires> rise = x -> {
            mixed(x);
            x.level(4, 1, 999);
            x.times(4, 11, 1, 5, 0);
            return x.rest();
        };
        ToLongFunction<StampedWires> reached = x -> rise.applyAsLong(x) + x.run(11);
        Recipe whole = new Recipe("run(60) that fails", x -> rise.applyAsLong(x) + x.run(60), true, false);
        long[] is = answers(whole, none()), due = answers(new Recipe("run(11)", reached, true, false), none());
        for (int k = 0; k < is.length; k++) {
            String question = QUESTIONS.get(k).name();
            if (stays(question)) due(11, question + " behind a run that fails", is[k], due[k]);
        }
        StampedWires x = new StampedWires();
        rise.applyAsLong(x);
        due(11, "run(60)", x.run(60), 11);
        due(11, "count(9)", x.count(9), 2);
    }

    // "No PART any more, all as at first"
    private static void clearLeavesWhatANewOneHas() {
        long[] fresh = answers(RECIPES.get(0), none());
        for (Recipe recipe : RECIPES) {
            Recipe cleared = new Recipe(recipe.name() + " and clear()", x -> recipe.made().applyAsLong(x) + x.clear(), false, false);
            long[] is = answers(cleared, none());
            for (int k = 0; k < is.length; k++) due(12, QUESTIONS.get(k).name() + " behind " + cleared.name(), is[k], fresh[k]);
        }
        // And what comes then is as if nothing had been ahead.
        long[] mixed = answers(RECIPES.get(4), none());
        Recipe again = new Recipe("clear() and all again", x -> full(x) + x.rest() + x.run(40) + x.clear() + mixed(x) + x.rest() + x.run(9), true, false);
        long[] is = answers(again, none());
        for (int k = 0; k < is.length; k++) due(12, QUESTIONS.get(k).name() + " behind clear() and all again", is[k], mixed[k]);
    }

    private LeftAsItWasTest() { }
}
