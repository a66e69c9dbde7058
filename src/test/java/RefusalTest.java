import java.util.ArrayList;
import java.util.List;

/**
 * Exceptions: for each argument the last value that is allowed and the first that is not, on both sides; which
 * exception is thrown first; and that a refused call changes nothing, be it seen or not (the text, the remembered
 * states, the save slots).
 */
public final class RefusalTest {
    private static final Class<IllegalArgumentException> ARGUMENT = IllegalArgumentException.class;
    private static final Class<IllegalStateException> STATE = IllegalStateException.class;
    private static final Class<IndexOutOfBoundsException> PLACE = IndexOutOfBoundsException.class;

    private interface Asked {
        long ask(ImpactPlate x, long v);
    }

    public static void main(String[] args) {
        textArguments();
        readingArguments();
        patternArguments();
        actionArguments();
        borderArguments();
        whatIfArguments();
        scriptArguments();
        slotArguments();
        textStates();
        borderStates();
        undoStates();
        slotStates();
        order();
        Check.finish();
    }

    // ---- the plates that are asked

    private static ImpactPlate fresh() {
        return new ImpactPlate();
    }

    /** Some of everything: a text that is no storm, three remembered states, the slot 0 filled. */
    private static ImpactPlate midway() {
        ImpactPlate x = Plates.withText("Pd05");
        x.drop(5, 50);
        x.save(0);
        x.drop(1, 30);
        x.setBorder(4, 901);
        return x;
    }

    /** All of everything: 100 signs, a full trace and record, 14 remembered states, both slots filled. */
    private static ImpactPlate full() {
        ImpactPlate x = Plates.withText("Pd0530w05" + "p10d0109".repeat(11) + "p99");
        x.setBorder(2, 300);
        for (int i = 0; i < 62; i++) {
            x.drop(i % 7, 1 + i * 11 % 60);
        }
        x.save(0);
        x.set(0, 7);
        x.set(1, 5);
        x.pass(9);
        x.save(1);
        for (int i = 0; i < 15; i++) {
            x.drop(i % 5, 20 + 2 * i);
        }
        return x;
    }

    // ---- everything that there is to a plate

    private static String afterUndo(ImpactPlate x, int times) {
        StringBuilder seen = new StringBuilder();
        for (int i = 0; i < times; i++) {
            seen.append(Check.answer(x::undo)).append(' ');
        }
        return seen + Look.at(x);
    }

    private static String afterRestore(ImpactPlate x, int slot) {
        return Check.answer(() -> x.restore(slot)) + " " + Look.at(x);
    }

    private static String afterLoad(ImpactPlate x) {
        return Check.answer(x::load) + " " + Look.at(x) + " " + x.clearText();
    }

    /** Each sight needs a plate of its own: to look at what is remembered is to lose it. */
    private static List<String> sights(Plates.Recipe recipe) {
        List<String> seen = new ArrayList<>();
        for (int times : new int[] {0, 1, 3, 13, 15}) {
            seen.add(afterUndo(recipe.make(), times));
        }
        seen.add(afterRestore(recipe.make(), 0));
        seen.add(afterRestore(recipe.make(), 1));
        seen.add(afterLoad(recipe.make()));
        return seen;
    }

    private static void refused(Plates.Recipe recipe, String call, Class<? extends RuntimeException> kind,
            Asked asked, long v) {
        Check.dueThrow(call, kind, () -> asked.ask(recipe.make(), v));
        List<String> untouched = sights(recipe);
        List<String> touched = sights(() -> {
            ImpactPlate x = recipe.make();
            Check.answer(() -> asked.ask(x, v));
            return x;
        });
        for (int i = 0; i < untouched.size(); i++) {
            Check.due("sight " + i + " after the refused " + call, touched.get(i), untouched.get(i));
        }
    }

    private static void refusedEverywhere(String call, Class<? extends RuntimeException> kind, Asked asked, long v) {
        refused(RefusalTest::fresh, call + " on a new plate", kind, asked, v);
        refused(RefusalTest::midway, call + " on a plate midway", kind, asked, v);
        refused(RefusalTest::full, call + " on a full plate", kind, asked, v);
    }

    private static void allowed(Plates.Recipe recipe, String call, Asked asked, long v) {
        String answer = Check.answer(() -> asked.ask(recipe.make(), v));
        Check.due(call + " is allowed: " + answer, answer.contains("Exception") ? 0 : 1, 1);
    }

    /** The values from least to greatest are allowed on a new plate, all others are refused on every plate. */
    private static void range(String call, Class<? extends RuntimeException> kind, long least, long greatest,
            Asked asked) {
        allowed(RefusalTest::fresh, call + " with " + least, asked, least);
        allowed(RefusalTest::fresh, call + " with " + greatest, asked, greatest);
        refusedEverywhere(call + " with " + (least - 1), kind, asked, least - 1);
        refusedEverywhere(call + " with the least int", kind, asked, Integer.MIN_VALUE);
        if (greatest < Integer.MAX_VALUE) {
            refusedEverywhere(call + " with " + (greatest + 1), kind, asked, greatest + 1);
            refusedEverywhere(call + " with the greatest int", kind, asked, Integer.MAX_VALUE);
        }
    }

    // ---- arguments

    private static void textArguments() {
        range("append(c)", ARGUMENT, 0, 255, (x, v) -> x.append((int) v));
    }

    private static void readingArguments() {
        range("about(what)", ARGUMENT, 0, 11, (x, v) -> x.about((int) v));
        range("setting(what)", ARGUMENT, 0, 4, (x, v) -> x.setting((int) v));
        range("bin(k, 2)", PLACE, 0, 7, (x, v) -> x.bin((int) v, 2));
        range("bin(0, what)", ARGUMENT, 0, 4, (x, v) -> x.bin(0, (int) v));
        range("bin(7, what)", ARGUMENT, 0, 4, (x, v) -> x.bin(7, (int) v));
        range("pulse(what)", ARGUMENT, 0, 3, (x, v) -> x.pulse((int) v));
        range("fate(i)", ARGUMENT, 0, Integer.MAX_VALUE, (x, v) -> x.fate((int) v));
        range("longest(fate)", ARGUMENT, 0, 3, (x, v) -> x.longest((int) v));
        range("rain(law)", ARGUMENT, 0, 2, (x, v) -> x.rain((int) v));
    }

    private static void patternArguments() {
        range("pattern(n, 0)", ARGUMENT, 1, 8, (x, v) -> x.pattern((int) v, 0));
        int threes = 0;
        int tooLong = 1;
        for (int n = 1; n <= 8; n++) {
            int length = n;
            threes = threes * 10 + 3;
            tooLong = tooLong * 10;
            String call = "pattern(" + n + ", fates)";
            range(call, ARGUMENT, 0, threes, (x, v) -> x.pattern(length, (int) v));
            refusedEverywhere(call + " of one digit more", ARGUMENT, (x, v) -> x.pattern(length, (int) v), tooLong);
            for (int digit = 4; digit <= 9; digit++) {
                refusedEverywhere(call + " that begin with " + digit, ARGUMENT,
                        (x, v) -> x.pattern(length, (int) v), digit * (tooLong / 10));
            }
        }
    }

    private static void actionArguments() {
        range("drop(ticks, 30)", ARGUMENT, 0, 99, (x, v) -> x.drop((int) v, 30));
        range("drop(5, size)", ARGUMENT, 1, 60, (x, v) -> x.drop(5, (int) v));
        range("pass(ticks)", ARGUMENT, 1, 99, (x, v) -> x.pass((int) v));
        range("set(what, v)", ARGUMENT, 0, 4, (x, v) -> x.set((int) v, v == 4 ? 600 : 5));
        range("set(0, v)", ARGUMENT, 0, 40, (x, v) -> x.set(0, (int) v));
        range("set(1, v)", ARGUMENT, 0, 20, (x, v) -> x.set(1, (int) v));
        range("set(2, v)", ARGUMENT, 1, 9, (x, v) -> x.set(2, (int) v));
        range("set(3, v)", ARGUMENT, 1, 200, (x, v) -> x.set(3, (int) v));
        range("set(4, v)", ARGUMENT, 500, 5000, (x, v) -> x.set(4, (int) v));
    }

    private static void borderArguments() {
        range("setBorder(k, its own)", PLACE, 1, 7,
                (x, v) -> x.setBorder((int) v, v >= 1 && v <= 7 ? x.bin((int) v, 0) : 50));
        allowed(RefusalTest::fresh, "setBorder(1, 1)", (x, v) -> x.setBorder(1, (int) v), 1);
        allowed(RefusalTest::fresh, "setBorder(7, 5000)", (x, v) -> x.setBorder(7, (int) v), 5000);
        for (int k = 1; k <= 7; k++) {
            int border = k;
            for (int wrong : new int[] {0, -1, 5001, Integer.MIN_VALUE, Integer.MAX_VALUE}) {
                refusedEverywhere("setBorder(" + k + ", " + wrong + ")", ARGUMENT,
                        (x, v) -> x.setBorder(border, (int) v), wrong);
            }
        }
    }

    private static void whatIfArguments() {
        range("wouldBe(ticks, 30)", ARGUMENT, 0, 99, (x, v) -> x.wouldBe((int) v, 30));
        range("wouldBe(5, size)", ARGUMENT, 1, 60, (x, v) -> x.wouldBe(5, (int) v));
        range("leastSize(ticks)", ARGUMENT, 0, 99, (x, v) -> x.leastSize((int) v));
        range("quietIn(level)", ARGUMENT, 0, 5000, (x, v) -> x.quietIn((int) v));
        range("replay(window, 4, 0)", ARGUMENT, 0, 20, (x, v) -> x.replay((int) v, 4, 0));
        range("replay(3, damping, 0)", ARGUMENT, 1, 9, (x, v) -> x.replay(3, (int) v, 0));
        range("replay(3, 4, what)", ARGUMENT, 0, 3, (x, v) -> x.replay(3, 4, (int) v));
        range("bestWindow(law)", ARGUMENT, 0, 2, (x, v) -> x.bestWindow((int) v));
    }

    private static void scriptArguments() {
        range("runScript(n, 0)", ARGUMENT, 1, 3, (x, v) -> x.runScript((int) v, 0));
        long most = 1;
        for (int n = 1; n <= 3; n++) {
            int length = n;
            most = most * 100000;
            Asked asked = (x, v) -> x.runScript(length, v);
            String call = "runScript(" + n + ", script)";
            allowed(RefusalTest::fresh, call + " with 0", asked, 0);
            allowed(RefusalTest::fresh, call + " with " + (most - 1), asked, most - 1);
            for (long wrong : new long[] {-1, Long.MIN_VALUE, most, Long.MAX_VALUE}) {
                refusedEverywhere(call + " with " + wrong, ARGUMENT, asked, wrong);
            }
        }
        range("simulate(7, m)", ARGUMENT, 1, 99, (x, v) -> x.simulate(7, (int) v));
        for (long seed : new long[] {Long.MIN_VALUE, -1, 0, 1, Long.MAX_VALUE}) {
            allowed(RefusalTest::fresh, "simulate(" + seed + ", 99)", (x, v) -> x.simulate(v, 99), seed);
        }
    }

    private static void slotArguments() {
        range("save(slot)", PLACE, 0, 1, (x, v) -> x.save((int) v));
        for (int slot : new int[] {0, 1}) {
            allowed(RefusalTest::full, "restore(" + slot + ")", (x, v) -> x.restore((int) v), slot);
        }
        for (int slot : new int[] {-1, 2, Integer.MIN_VALUE, Integer.MAX_VALUE}) {
            refusedEverywhere("restore(" + slot + ")", PLACE, (x, v) -> x.restore((int) v), slot);
        }
    }

    // ---- states

    private static void textStates() {
        Plates.Recipe signs99 = () -> Plates.withText("p".repeat(99));
        allowed(signs99, "append to 99 signs", (x, v) -> x.append((int) v), 'P');
        for (int c : new int[] {0, 'P', 255}) {
            refused(RefusalTest::full, "append(" + c + ") to 100 signs", STATE, (x, v) -> x.append((int) v), c);
        }
        refused(RefusalTest::fresh, "load() of no text", STATE, (x, v) -> x.load(), 0);
        refused(RefusalTest::midway, "load() of a text that ends too soon", STATE, (x, v) -> x.load(), 0);
        refused(() -> {
            ImpactPlate x = full();
            x.clearText();
            Plates.write(x, "Pd0530p00");
            return x;
        }, "load() of a text with a number that is not allowed", STATE, (x, v) -> x.load(), 0);
        allowed(() -> Plates.withText("P"), "load() of P", (x, v) -> x.load(), 0);
        allowed(RefusalTest::full, "load() of 100 signs", (x, v) -> x.load(), 0);
    }

    private static void borderStates() {
        int[] borders = {0, 100, 225, 400, 900, 1600, 2500, 3600, 5001};
        for (int k = 1; k <= 7; k++) {
            int border = k;
            Asked asked = (x, v) -> x.setBorder(border, (int) v);
            String call = "setBorder(" + k + ", ";
            allowed(RefusalTest::fresh, call + "just above the one before)", asked, borders[k - 1] + 1);
            allowed(RefusalTest::fresh, call + "just below the one behind)", asked, borders[k + 1] - 1);
            if (k > 1) {
                refused(RefusalTest::fresh, call + "the one before)", STATE, asked, borders[k - 1]);
                refused(RefusalTest::fresh, call + "1)", STATE, asked, 1);
                refused(RefusalTest::full, call + "1)", STATE, asked, 1);
            }
            if (k < 7) {
                refused(RefusalTest::fresh, call + "the one behind)", STATE, asked, borders[k + 1]);
                refused(RefusalTest::fresh, call + "5000)", STATE, asked, 5000);
                refused(RefusalTest::full, call + "5000)", STATE, asked, 5000);
            }
        }
        refused(RefusalTest::midway, "setBorder(3, 901)", STATE, (x, v) -> x.setBorder(3, (int) v), 901);
        allowed(RefusalTest::midway, "setBorder(3, 900)", (x, v) -> x.setBorder(3, (int) v), 900);
        refused(RefusalTest::midway, "setBorder(5, 901)", STATE, (x, v) -> x.setBorder(5, (int) v), 901);
        allowed(RefusalTest::midway, "setBorder(5, 902)", (x, v) -> x.setBorder(5, (int) v), 902);
    }

    private static void undoStates() {
        refused(RefusalTest::fresh, "undo() of no action", STATE, (x, v) -> x.undo(), 0);
        refused(() -> {
            ImpactPlate x = midway();
            x.undo();
            x.undo();
            x.undo();
            return x;
        }, "undo() of more than there is", STATE, (x, v) -> x.undo(), 0);
        refused(() -> {
            ImpactPlate x = full();
            for (int i = 0; i < 14; i++) {
                x.undo();
            }
            return x;
        }, "undo() of a forgotten state", STATE, (x, v) -> x.undo(), 0);
        refused(() -> {
            ImpactPlate x = full();
            x.load();
            return x;
        }, "undo() behind load()", STATE, (x, v) -> x.undo(), 0);
        refused(() -> {
            ImpactPlate x = full();
            x.restore(1);
            return x;
        }, "undo() behind restore(1)", STATE, (x, v) -> x.undo(), 0);
        allowed(RefusalTest::midway, "undo()", (x, v) -> x.undo(), 0);
    }

    private static void slotStates() {
        for (int slot : new int[] {0, 1}) {
            refused(RefusalTest::fresh, "restore(" + slot + ") of nothing", STATE, (x, v) -> x.restore((int) v), slot);
            refused(() -> {
                ImpactPlate x = full();
                x.load();
                return x;
            }, "restore(" + slot + ") behind load()", STATE, (x, v) -> x.restore((int) v), slot);
        }
        refused(RefusalTest::midway, "restore(1) when only 0 is filled", STATE, (x, v) -> x.restore(1), 0);
        allowed(RefusalTest::midway, "restore(0)", (x, v) -> x.restore(0), 0);
        refused(() -> {
            ImpactPlate x = new ImpactPlate();
            x.pass(4);
            x.save(1);
            return x;
        }, "restore(0) when only 1 is filled", STATE, (x, v) -> x.restore(0), 0);
    }

    // If several exceptions apply to a call, the one that its description names first is thrown.
    private static void order() {
        refused(RefusalTest::full, "append(256) to 100 signs", ARGUMENT, (x, v) -> x.append(256), 0);
        refused(RefusalTest::full, "append(-1) to 100 signs", ARGUMENT, (x, v) -> x.append(-1), 0);
        for (int k : new int[] {-1, 8, Integer.MIN_VALUE, Integer.MAX_VALUE}) {
            for (int what : new int[] {-1, 5}) {
                refusedEverywhere("bin(" + k + ", " + what + ")", PLACE, (x, v) -> x.bin((int) v, what), k);
            }
        }
        for (int k : new int[] {0, 8, -1, Integer.MIN_VALUE, Integer.MAX_VALUE}) {
            for (int wrong : new int[] {0, 5001, 100}) {
                refusedEverywhere("setBorder(" + k + ", " + wrong + ")", PLACE,
                        (x, v) -> x.setBorder((int) v, wrong), k);
            }
        }
        refusedEverywhere("setBorder(4, 0): below the one before, too", ARGUMENT, (x, v) -> x.setBorder(4, 0), 0);
        refusedEverywhere("setBorder(4, 5001): above the one behind, too", ARGUMENT,
                (x, v) -> x.setBorder(4, 5001), 0);
        for (int slot : new int[] {-1, 2}) {
            refused(RefusalTest::fresh, "restore(" + slot + ") when nothing is saved", PLACE,
                    (x, v) -> x.restore((int) v), slot);
        }
    }
}
